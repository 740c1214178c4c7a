theorem idL_change : yL_change.cls = RL ∧ yL_change.cls ≠ "java/lang/invoke/MethodHandle" ∧ yL_change.cls ≠ "java/lang/invoke/VarHandle" ∧ (parseMethodDescriptor yL_change.desc).map (fun d => d.parameters.length) = some 3 := by decide +kernel
set_option maxHeartbeats 4000000 in
set_option maxRecDepth 100000 in
theorem nL_change (l : Launch) (hl0 : l.stackTraces = false) {G : va_G} {T : Nat → ClassId} {sa : Nat → Nat} {A9 : Nat → Prop} {H0 : Heap} {q : Nat → Nat} {a : Nat → Nat} {N : Nat → Nat} {Z : Nat → Nat → Int32} {b : Nat → Nat → Nat} {M : Nat → Nat → Nat} {Y : Nat → Nat → Nat → Int32} {sc : Nat} {tx : Nat → Int32} {L : Nat} {cu : Nat} {er : Int32} {le : Int32} {nb : Nat → Int32} {nc : Nat} {v : Int32} {w : Int32} (h9 : ∀ z9 : Nat, va_A (wMain T q a N Z b M Y sc tx L cu er le nb nc) H0.size z9 → A9 z9) (hP : va_P G vwCl (wMain T q a N Z b M Y sc tx L cu er le nb nc) H0) (hD : va_D (fun _ => True) (wMain T q a N Z b M Y sc tx L cu er le nb nc)) (hwf : wf N Z) (hsc : sc ≤ 4)  : wn l yL_change wsL_change 9 180 3 [.ref (q 0), .int v, .int w] G T sa A9 H0 (wMain T q a N Z b M Y sc tx L cu er le nb nc) (fun v9 H9 => v9 = some (.int ((chg N Z v w).1)) ∧ wst G T q a ((chg N Z v w).2.1) ((chg N Z v w).2.2) b tx L cu er le nb nc H9) := by
  refine wn_of (cc := cL_change) (maxL := 11) (ret := .int) (own := RL) (by decide +kernel) rfl rfl (Nat.le_of_ble_eq_true rfl) h9 hD ?_
  have hb2 := hwf.1
  intro p e s m below meth c Q ls A S hkx hth0 hl hD hS hA hret
  obtain ⟨hx, hb, hml, hown, hts⟩ := id S
  have hl : lv_has ls 11 [(0, .ref (q 0)), (1, .int v), (2, .int w)] := hl
  have hth := hth0
  have hR := lowN_lt w (show 0 < 200 by decide)
  have hD9 := lowN_lt w (show 0 < 1000 by decide)
  have hX := lowN_lt w (show 0 < 600 by decide)
  have hY := lowN_lt w (show 0 < 99 by decide)
  have hE := lowN_lt (w >>> (8 &&& 31)) (show 0 < 1000 - lowN w 200 by omega)
  have hW := lowN_lt (w >>> (10 &&& 31)) (show 0 < 1000 - lowN w 600 by omega)
  have hQ := lowN_lt (w >>> (4 &&& 31)) (show 0 < 99 by decide)
  refine lv_aload_n hx hb dL_change_0 rfl (lv_at hl 0 rfl) ?_
  refine lv_iconst (v := 0) hx hb dL_change_1 (by decide) ?_
  refine rn_V S hkx hth (nX5_value l hl0 (sa := sa) (h9 := (fun q h => hA q (Nat.le_trans hS.1 h))) (hP := hP) (hwf := hwf) (hw := (by omega)) (w := 0)) gL_change_X5_value rfl idX5_value ⟨Nat.le_of_ble_eq_true rfl, Nat.le_of_ble_eq_true rfl⟩ hP 0 rfl rfl rfl rfl hl.1 rfl (Nat.le_of_ble_eq_true rfl) dL_change_2 ⟨Nat.le_of_ble_eq_true rfl, Nat.le_of_ble_eq_true rfl⟩ (fun v9 hv9 => ?_)
  subst hv9
  refine W.eq (g2 := F0 m 5 ls [.int (nI (N 0))]) rfl ?_
  refine lv_istore_n (lv' := [(3, .int (nI (N 0))), (0, .ref (q 0)), (1, .int v), (2, .int w)]) hx hb dL_change_5 rfl hl (by decide) rfl (fun ls hl => ?_)
  refine lv_aload_n hx hb dL_change_6 rfl (lv_at hl 1 rfl) ?_
  refine lv_iconst (v := 1) hx hb dL_change_7 (by decide) ?_
  refine rn_V S hkx hth (nX5_value l hl0 (sa := sa) (h9 := (fun q h => hA q (Nat.le_trans hS.1 h))) (hP := hP) (hwf := hwf) (hw := (by omega)) (w := 1)) gL_change_X5_value rfl idX5_value ⟨Nat.le_of_ble_eq_true rfl, Nat.le_of_ble_eq_true rfl⟩ hP 0 rfl rfl rfl rfl hl.1 rfl (Nat.le_of_ble_eq_true rfl) dL_change_8 ⟨Nat.le_of_ble_eq_true rfl, Nat.le_of_ble_eq_true rfl⟩ (fun v9 hv9 => ?_)
  subst hv9
  refine W.eq (g2 := F0 m 11 ls [.int (nI (N 1))]) rfl ?_
  refine lv_istore (lv' := [(4, .int (nI (N 1))), (3, .int (nI (N 0))), (0, .ref (q 0)), (1, .int v), (2, .int w)]) hx hb dL_change_11 hl (by decide) rfl (fun ls hl => ?_)
  refine lv_aload_n hx hb dL_change_13 rfl (lv_at hl 2 rfl) ?_
  refine lv_iconst (v := 2) hx hb dL_change_14 (by decide) ?_
  refine rn_V S hkx hth (nX5_value l hl0 (sa := sa) (h9 := (fun q h => hA q (Nat.le_trans hS.1 h))) (hP := hP) (hwf := hwf) (hw := (by omega)) (w := 2)) gL_change_X5_value rfl idX5_value ⟨Nat.le_of_ble_eq_true rfl, Nat.le_of_ble_eq_true rfl⟩ hP 0 rfl rfl rfl rfl hl.1 rfl (Nat.le_of_ble_eq_true rfl) dL_change_15 ⟨Nat.le_of_ble_eq_true rfl, Nat.le_of_ble_eq_true rfl⟩ (fun v9 hv9 => ?_)
  subst hv9
  refine W.eq (g2 := F0 m 18 ls [.int (nI (N 2))]) rfl ?_
  refine lv_istore (lv' := [(5, .int (nI (N 2))), (4, .int (nI (N 1))), (3, .int (nI (N 0))), (0, .ref (q 0)), (1, .int v), (2, .int w)]) hx hb dL_change_18 hl (by decide) rfl (fun ls hl => ?_)
  refine lv_iload hx hb dL_change_20 (lv_at hl 0 rfl) ?_
  refine lv_if_ne (tgt := 29) hx hb dL_change_22 (by decide) (fun c_1 => ?_) (fun c_1 => ?_)
  · replace c_1 := cn_ne (a := (N 2)) (b := 0) (by omega) (by omega) c_1
    refine lv_iload_n hx hb dL_change_29 rfl (lv_at hl 4 rfl) ?_
    refine lv_iconst (v := 5) hx hb dL_change_30 (by decide) ?_
    refine lv_ishr hx hb dL_change_31 ?_
    refine lv_iload hx hb dL_change_32 (lv_at hl 0 rfl) ?_
    refine ro_S S hkx (mL_low l (v := (v >>> (5 &&& 31))) (k := (N 2)) (h0 := (by omega)) (hk := (by omega))) gL_change_L_low rfl idL_low.2 ⟨Nat.le_of_ble_eq_true rfl, Nat.le_of_ble_eq_true rfl⟩ rfl hl.1 rfl (Nat.le_of_ble_eq_true rfl) dL_change_34 ⟨Nat.le_of_ble_eq_true rfl, Nat.le_of_ble_eq_true rfl⟩ (fun r9 hr9 => ?_)
    subst hr9
    refine W.eq (g2 := F0 m 37 ls [.int (nI (lowN (v >>> (5 &&& 31)) (N 2)))]) rfl ?_
    refine W.eq (g2 := F0 m 37 ls [.int (nI (chU N v))]) (congrArg (fun z9 => F0 m 37 ls (.int z9 :: [])) (by unfold chU; rw [if_neg c_1])) ?_
    have L37 :  ∀ (H : Heap) (locs : List Loc), va_P G vwCl (wMain T q a N Z b M Y sc tx L cu er le nb nc) H → va_D A (wMain T q a N Z b M Y sc tx L cu er le nb nc) → va_S A H0 H locs → ∀ ls : Array Slot, lv_has ls 11 [(0, .ref (q 0)), (1, .int v), (2, .int w), (3, .int (nI (N 0))), (4, .int (nI (N 1))), (5, .int (nI (N 2)))] → W p l e (rmx 9 180 3) s m ([.ref (q 0), .int v, .int w] : List Value).toArray below meth c H locs 0 0 Q (F0 m 37 ls [.int (nI (chU N v))]) := by
      intro   H locs hP hD hS ls hl
      have hth := hth0.kept hS.2.1
      refine lv_istore (lv' := [(6, .int (nI (chU N v))), (0, .ref (q 0)), (1, .int v), (2, .int w), (3, .int (nI (N 0))), (4, .int (nI (N 1))), (5, .int (nI (N 2)))]) hx hb dL_change_37 hl (by decide) rfl (fun ls hl => ?_)
      refine lv_iload_n hx hb dL_change_39 rfl (lv_at hl 4 rfl) ?_
      refine lv_if_ne (tgt := 47) hx hb dL_change_40 (by decide) (fun c_2 => ?_) (fun c_2 => ?_)
      · replace c_2 := cn_ne (a := (N 0)) (b := 0) (by omega) (by omega) c_2
        refine lv_iload_n hx hb dL_change_47 rfl (lv_at hl 2 rfl) ?_
        refine lv_bipush (v := 9) hx hb dL_change_48 (by decide) ?_
        refine lv_ishr hx hb dL_change_50 ?_
        refine lv_iload_n hx hb dL_change_51 rfl (lv_at hl 4 rfl) ?_
        refine ro_S S hkx (mL_low l (v := (v >>> (9 &&& 31))) (k := (N 0)) (h0 := (by omega)) (hk := (by omega))) gL_change_L_low rfl idL_low.2 ⟨Nat.le_of_ble_eq_true rfl, Nat.le_of_ble_eq_true rfl⟩ rfl hl.1 rfl (Nat.le_of_ble_eq_true rfl) dL_change_52 ⟨Nat.le_of_ble_eq_true rfl, Nat.le_of_ble_eq_true rfl⟩ (fun r9 hr9 => ?_)
        subst hr9
        refine W.eq (g2 := F0 m 55 ls [.int (nI (lowN (v >>> (9 &&& 31)) (N 0)))]) rfl ?_
        refine W.eq (g2 := F0 m 55 ls [.int (nI (chA N v))]) (congrArg (fun z9 => F0 m 55 ls (.int z9 :: [])) (by unfold chA; rw [if_neg c_2])) ?_
        have L55 :  ∀ (H : Heap) (locs : List Loc), va_P G vwCl (wMain T q a N Z b M Y sc tx L cu er le nb nc) H → va_D A (wMain T q a N Z b M Y sc tx L cu er le nb nc) → va_S A H0 H locs → ∀ ls : Array Slot, lv_has ls 11 [(0, .ref (q 0)), (1, .int v), (2, .int w), (3, .int (nI (N 0))), (4, .int (nI (N 1))), (5, .int (nI (N 2))), (6, .int (nI (chU N v)))] → W p l e (rmx 9 180 3) s m ([.ref (q 0), .int v, .int w] : List Value).toArray below meth c H locs 0 0 Q (F0 m 55 ls [.int (nI (chA N v))]) := by
          intro   H locs hP hD hS ls hl
          have hth := hth0.kept hS.2.1
          refine lv_istore (lv' := [(7, .int (nI (chA N v))), (0, .ref (q 0)), (1, .int v), (2, .int w), (3, .int (nI (N 0))), (4, .int (nI (N 1))), (5, .int (nI (N 2))), (6, .int (nI (chU N v)))]) hx hb dL_change_55 hl (by decide) rfl (fun ls hl => ?_)
          refine lv_iload hx hb dL_change_57 (lv_at hl 5 rfl) ?_
          refine lv_if_ne (tgt := 66) hx hb dL_change_59 (by decide) (fun c_3 => ?_) (fun c_3 => ?_)
          · replace c_3 := cn_ne (a := (N 1)) (b := 0) (by omega) (by omega) c_3
            refine lv_iload_n hx hb dL_change_66 rfl (lv_at hl 2 rfl) ?_
            refine lv_bipush (v := 13) hx hb dL_change_67 (by decide) ?_
            refine lv_ishr hx hb dL_change_69 ?_
            refine lv_iload hx hb dL_change_70 (lv_at hl 5 rfl) ?_
            refine ro_S S hkx (mL_low l (v := (v >>> (13 &&& 31))) (k := (N 1)) (h0 := (by omega)) (hk := (by omega))) gL_change_L_low rfl idL_low.2 ⟨Nat.le_of_ble_eq_true rfl, Nat.le_of_ble_eq_true rfl⟩ rfl hl.1 rfl (Nat.le_of_ble_eq_true rfl) dL_change_72 ⟨Nat.le_of_ble_eq_true rfl, Nat.le_of_ble_eq_true rfl⟩ (fun r9 hr9 => ?_)
            subst hr9
            refine W.eq (g2 := F0 m 75 ls [.int (nI (lowN (v >>> (13 &&& 31)) (N 1)))]) rfl ?_
            refine W.eq (g2 := F0 m 75 ls [.int (nI (chF N v))]) (congrArg (fun z9 => F0 m 75 ls (.int z9 :: [])) (by unfold chF; rw [if_neg c_3])) ?_
            have L75 :  ∀ (H : Heap) (locs : List Loc), va_P G vwCl (wMain T q a N Z b M Y sc tx L cu er le nb nc) H → va_D A (wMain T q a N Z b M Y sc tx L cu er le nb nc) → va_S A H0 H locs → ∀ ls : Array Slot, lv_has ls 11 [(0, .ref (q 0)), (1, .int v), (2, .int w), (3, .int (nI (N 0))), (4, .int (nI (N 1))), (5, .int (nI (N 2))), (6, .int (nI (chU N v))), (7, .int (nI (chA N v)))] → W p l e (rmx 9 180 3) s m ([.ref (q 0), .int v, .int w] : List Value).toArray below meth c H locs 0 0 Q (F0 m 75 ls [.int (nI (chF N v))]) := by
              intro   H locs hP hD hS ls hl
              have hth := hth0.kept hS.2.1
              refine lv_istore (lv' := [(8, .int (nI (chF N v))), (0, .ref (q 0)), (1, .int v), (2, .int w), (3, .int (nI (N 0))), (4, .int (nI (N 1))), (5, .int (nI (N 2))), (6, .int (nI (chU N v))), (7, .int (nI (chA N v)))]) hx hb dL_change_75 hl (by decide) rfl (fun ls hl => ?_)
              refine lv_iload_n hx hb dL_change_77 rfl (lv_at hl 3 rfl) ?_
              refine lv_sipush (v := 200) hx hb dL_change_78 (by decide) ?_
              refine ro_S S hkx (mL_low l (v := w) (k := 200) (h0 := (by omega)) (hk := (by omega))) gL_change_L_low rfl idL_low.2 ⟨Nat.le_of_ble_eq_true rfl, Nat.le_of_ble_eq_true rfl⟩ rfl hl.1 rfl (Nat.le_of_ble_eq_true rfl) dL_change_81 ⟨Nat.le_of_ble_eq_true rfl, Nat.le_of_ble_eq_true rfl⟩ (fun r9 hr9 => ?_)
              subst hr9
              refine W.eq (g2 := F0 m 84 ls [.int (nI (lowN w 200))]) rfl ?_
              refine lv_istore (lv' := [(9, .int (nI (lowN w 200))), (8, .int (nI (chF N v))), (0, .ref (q 0)), (1, .int v), (2, .int w), (3, .int (nI (N 0))), (4, .int (nI (N 1))), (5, .int (nI (N 2))), (6, .int (nI (chU N v))), (7, .int (nI (chA N v)))]) hx hb dL_change_84 hl (by decide) rfl (fun ls hl => ?_)
              refine lv_iload_n hx hb dL_change_86 rfl (lv_at hl 3 rfl) ?_
              refine lv_bipush (v := 12) hx hb dL_change_87 (by decide) ?_
              refine ro_S S hkx (mL_low l (v := v) (k := 12) (h0 := (by omega)) (hk := (by omega))) gL_change_L_low rfl idL_low.2 ⟨Nat.le_of_ble_eq_true rfl, Nat.le_of_ble_eq_true rfl⟩ rfl hl.1 rfl (Nat.le_of_ble_eq_true rfl) dL_change_89 ⟨Nat.le_of_ble_eq_true rfl, Nat.le_of_ble_eq_true rfl⟩ (fun r9 hr9 => ?_)
              subst hr9
              refine W.eq (g2 := F0 m 92 ls [.int (nI (lowN v 12))]) rfl ?_
              obtain ⟨cz, hcz⟩ : ∃ cz, lowN v 12 = cz := ⟨_, rfl⟩
              have hcz12 : cz < 12 := hcz ▸ lowN_lt v (by decide)
              refine W.eq (g2 := F0 m 92 ls [.int (nI cz)]) (congrArg (fun z9 => F0 m 92 ls (.int z9 :: [])) (congrArg nI hcz)) ?_
              rcases (show cz = 0 ∨ cz = 1 ∨ cz = 2 ∨ cz = 3 ∨ cz = 4 ∨ cz = 5 ∨ cz = 6 ∨ cz = 7 ∨ cz = 8 ∨ cz = 9 ∨ cz = 10 ∨ cz = 11 by omega) with rfl | rfl | rfl | rfl | rfl | rfl | rfl | rfl | rfl | rfl | rfl | rfl
              · refine lv_tableIn (off := 60) (tgt := 152) hx hb dL_change_92 (by decide) (by decide) rfl (by decide) ?_
                have hg : chg N Z v w = ch0 N Z w := by unfold chg; rw [hcz]; rfl
                refine lv_iload_n hx hb dL_change_152 rfl (lv_at hl 5 rfl) ?_
                refine lv_iconst (v := 5) hx hb dL_change_153 (by decide) ?_
                refine lv_icmp_ge (tgt := 184) hx hb dL_change_154 (by decide) (fun c_4 => ?_) (fun c_4 => ?_)
                · replace c_4 := cn_le (a := 5) (b := (N 0)) (by omega) (by omega) c_4
                  refine lv_aload_n hx hb dL_change_184 rfl (lv_at hl 2 rfl) ?_
                  refine lv_iconst (v := 4) hx hb dL_change_185 (by decide) ?_
                  refine rn_V S hkx hth (nX5_value l hl0 (sa := sa) (h9 := (fun q h => hA q (Nat.le_trans hS.1 h))) (hP := hP) (hwf := hwf) (hw := (by omega)) (w := 4)) gL_change_X5_value rfl idX5_value ⟨Nat.le_of_ble_eq_true rfl, Nat.le_of_ble_eq_true rfl⟩ hP 0 rfl rfl rfl rfl hl.1 rfl (Nat.le_of_ble_eq_true rfl) dL_change_186 ⟨Nat.le_of_ble_eq_true rfl, Nat.le_of_ble_eq_true rfl⟩ (fun v9 hv9 => ?_)
                  subst hv9
                  refine W.eq (g2 := F0 m 189 ls [.int (plC Z (N 2))]) rfl ?_
                  have hv9 : chg N Z v w = ((plC Z (N 2)), N, Z) := by rw [hg]; unfold ch0; rw [if_neg (by first | assumption | omega | exact (fun q9 => by first | omega | exact absurd q9.2 (by assumption) | exact absurd q9.2.1 (by assumption) | exact absurd q9.2.2 (by assumption)))]
                  exact hret _ H _ _ _ _ _ (show some (Value.int (plC Z (N 2))) = some (Value.int ((chg N Z v w).1)) ∧ wst G T q a (chg N Z v w).2.1 (chg N Z v w).2.2 b tx L cu er le nb nc H from ⟨by rw [hv9], by rw [hv9]; exact wst_id hsc hP⟩) rfl hS (Nat.le_of_ble_eq_true rfl) (Nat.le_of_ble_eq_true rfl) dL_change_189
                · replace c_4 := cn_nle (a := 5) (b := (N 0)) (by omega) (by omega) c_4
                  refine lv_aload_n hx hb dL_change_157 rfl (lv_at hl 2 rfl) ?_
                  refine lv_iload hx hb dL_change_158 (lv_at hl 0 rfl) ?_
                  refine lv_iload hx hb dL_change_160 (lv_at hl 0 rfl) ?_
                  refine lv_iconst (v := 1) hx hb dL_change_162 (by decide) ?_
                  refine lv_iadd hx hb dL_change_163 ?_
                  refine W.eq (g2 := F0 m 164 ls [.int (nI ((lowN w 200) + 1)), .int (nI (lowN w 200)), .ref (q 0)]) (congrArg (fun z9 => F0 m 164 ls (.int z9 :: [.int (nI (lowN w 200)), .ref (q 0)])) (nI_add _ 1)) ?_
                  refine lv_iload_n hx hb dL_change_164 rfl (lv_at hl 4 rfl) ?_
                  refine lv_bipush (v := 8) hx hb dL_change_165 (by decide) ?_
                  refine lv_ishr hx hb dL_change_167 ?_
                  refine lv_sipush (v := 1000) hx hb dL_change_168 (by decide) ?_
                  refine lv_iload hx hb dL_change_171 (lv_at hl 0 rfl) ?_
                  refine lv_isub hx hb dL_change_173 ?_
                  refine W.eq (g2 := F0 m 174 ls [.int (nI (1000 - (lowN w 200))), .int (w >>> (8 &&& 31)), .int (nI ((lowN w 200) + 1)), .int (nI (lowN w 200)), .ref (q 0)]) (congrArg (fun z9 => F0 m 174 ls (.int z9 :: [.int (w >>> (8 &&& 31)), .int (nI ((lowN w 200) + 1)), .int (nI (lowN w 200)), .ref (q 0)])) (pk_sub (a := 1000) (b := (lowN w 200)) (by omega))) ?_
                  refine ro_S S hkx (mL_low l (v := (w >>> (8 &&& 31))) (k := (1000 - (lowN w 200))) (h0 := (by omega)) (hk := (by omega))) gL_change_L_low rfl idL_low.2 ⟨Nat.le_of_ble_eq_true rfl, Nat.le_of_ble_eq_true rfl⟩ rfl hl.1 rfl (Nat.le_of_ble_eq_true rfl) dL_change_174 ⟨Nat.le_of_ble_eq_true rfl, Nat.le_of_ble_eq_true rfl⟩ (fun r9 hr9 => ?_)
                  subst hr9
                  refine W.eq (g2 := F0 m 177 ls [.int (nI (lowN (w >>> (8 &&& 31)) (1000 - (lowN w 200)))), .int (nI ((lowN w 200) + 1)), .int (nI (lowN w 200)), .ref (q 0)]) rfl ?_
                  refine lv_iadd hx hb dL_change_177 ?_
                  refine W.eq (g2 := F0 m 178 ls [.int (nI (((lowN w 200) + 1) + (lowN (w >>> (8 &&& 31)) (1000 - (lowN w 200))))), .int (nI (lowN w 200)), .ref (q 0)]) (congrArg (fun z9 => F0 m 178 ls (.int z9 :: [.int (nI (lowN w 200)), .ref (q 0)])) (nI_add _ _)) ?_
                  refine wn_V S hkx hth (nX5_addVersion l hl0 (sa := sa) (A9 := A) (h9 := (fun q h => hA q (Nat.le_trans hS.1 h))) (hP := hP) (hD := hD.weaken (fun _ _ _ _ => trivial)) (hwf := hwf) (hsc := (by omega)) (hx := (by omega)) (hz1 := (by omega)) (hz := (by omega)) (h8 := (by omega)) (x := (lowN w 200)) (z := (((lowN w 200) + 1) + (lowN (w >>> (8 &&& 31)) (1000 - (lowN w 200)))))) gL_change_X5_addVersion rfl idX5_addVersion ⟨Nat.le_of_ble_eq_true rfl, Nat.le_of_ble_eq_true rfl⟩ hP 0 rfl rfl rfl rfl hl.1 rfl (Nat.le_of_ble_eq_true rfl) dL_change_178 ⟨Nat.le_of_ble_eq_true rfl, Nat.le_of_ble_eq_true rfl⟩ hS (fr_in hD (fun q h => hA q (Nat.le_trans hS.1 h))) (fun v9 H locs hp9 hz1 hk1 hS => ?_)
                  obtain ⟨rfl, hP⟩ := hp9
                  have hP : va_P G vwCl (wMain T q a (va_up N 0 (N 0 + 1)) (vAdd N Z (nI (lowN w 200)) (nI (((lowN w 200) + 1) + (lowN (w >>> (8 &&& 31)) (1000 - (lowN w 200)))))) (svB sc b) (psh sc M N) (psh sc Y Z) (svC sc) tx L cu er le nb nc) H := hP
                  have hD : va_D A (wMain T q a (va_up N 0 (N 0 + 1)) (vAdd N Z (nI (lowN w 200)) (nI (((lowN w 200) + 1) + (lowN (w >>> (8 &&& 31)) (1000 - (lowN w 200)))))) (svB sc b) (psh sc M N) (psh sc Y Z) (svC sc) tx L cu er le nb nc) := D_perm hD sv_addr
                  have hth := hth0.kept hS.2.1
                  refine W.eq (g2 := F0 m 181 ls [.int (nI (N 0))]) rfl ?_
                  refine lv_goto (tgt := 189) hx hb dL_change_181 (by decide) ?_
                  have hv9 : chg N Z v w = ((nI (N 0)), (va_up N 0 (N 0 + 1)), (vAdd N Z (nI (lowN w 200)) (nI (((lowN w 200) + 1) + (lowN (w >>> (8 &&& 31)) (1000 - (lowN w 200))))))) := by rw [hg]; unfold ch0; rw [if_pos (by first | assumption | omega | exact ⟨by first | assumption | omega, by first | assumption | omega⟩ | exact ⟨by first | assumption | omega, by first | assumption | omega, by first | assumption | omega⟩)]
                  exact hret _ H _ _ _ _ _ (show some (Value.int (nI (N 0))) = some (Value.int ((chg N Z v w).1)) ∧ wst G T q a (chg N Z v w).2.1 (chg N Z v w).2.2 b tx L cu er le nb nc H from ⟨by rw [hv9], by rw [hv9]; exact wst_sv hsc hP⟩) rfl hS (Nat.le_of_ble_eq_true rfl) (Nat.le_of_ble_eq_true rfl) dL_change_189
              · refine lv_tableIn (off := 98) (tgt := 190) hx hb dL_change_92 (by decide) (by decide) rfl (by decide) ?_
                have hg : chg N Z v w = ch1 N Z w := by unfold chg; rw [hcz]; rfl
                refine lv_iload_n hx hb dL_change_190 rfl (lv_at hl 5 rfl) ?_
                refine lv_if_le (tgt := 215) hx hb dL_change_191 (by decide) (fun c_5 => ?_) (fun c_5 => ?_)
                · replace c_5 := cn_le (a := (N 0)) (b := 0) (by omega) (by omega) c_5
                  refine lv_iload_n hx hb dL_change_215 rfl (lv_at hl 5 rfl) ?_
                  refine lv_if_ne (tgt := 230) hx hb dL_change_216 (by decide) (fun c_6 => ?_) (fun c_6 => ?_)
                  · exact absurd (show nI (N 0) = 0 by rw [show N 0 = 0 by omega]; rfl) c_6
                  · replace c_6 := cn_eq (a := (N 0)) (b := 0) (by omega) (by omega) c_6
                    refine lv_aload_n hx hb dL_change_219 rfl (lv_at hl 2 rfl) ?_
                    refine lv_iconst (v := 0) hx hb dL_change_220 (by decide) ?_
                    refine lv_sipush (v := 700) hx hb dL_change_221 (by decide) ?_
                    refine wn_V S hkx hth (nX5_addVersion l hl0 (sa := sa) (A9 := A) (h9 := (fun q h => hA q (Nat.le_trans hS.1 h))) (hP := hP) (hD := hD.weaken (fun _ _ _ _ => trivial)) (hwf := hwf) (hsc := (by omega)) (hx := (by omega)) (hz1 := (by omega)) (hz := (by omega)) (h8 := (by omega)) (x := 0) (z := 700)) gL_change_X5_addVersion rfl idX5_addVersion ⟨Nat.le_of_ble_eq_true rfl, Nat.le_of_ble_eq_true rfl⟩ hP 0 rfl rfl rfl rfl hl.1 rfl (Nat.le_of_ble_eq_true rfl) dL_change_224 ⟨Nat.le_of_ble_eq_true rfl, Nat.le_of_ble_eq_true rfl⟩ hS (fr_in hD (fun q h => hA q (Nat.le_trans hS.1 h))) (fun v9 H locs hp9 hz1 hk1 hS => ?_)
                    obtain ⟨rfl, hP⟩ := hp9
                    have hP : va_P G vwCl (wMain T q a (va_up N 0 (N 0 + 1)) (vAdd N Z (nI 0) (nI 700)) (svB sc b) (psh sc M N) (psh sc Y Z) (svC sc) tx L cu er le nb nc) H := hP
                    have hD : va_D A (wMain T q a (va_up N 0 (N 0 + 1)) (vAdd N Z (nI 0) (nI 700)) (svB sc b) (psh sc M N) (psh sc Y Z) (svC sc) tx L cu er le nb nc) := D_perm hD sv_addr
                    have hth := hth0.kept hS.2.1
                    refine W.eq (g2 := F0 m 227 ls [.int (nI (N 0))]) rfl ?_
                    refine lv_goto (tgt := 231) hx hb dL_change_227 (by decide) ?_
                    have hv9 : chg N Z v w = ((nI (N 0)), (va_up N 0 (N 0 + 1)), (vAdd N Z (nI 0) (nI 700))) := by rw [hg]; unfold ch1; rw [if_neg (by first | assumption | omega | exact (fun q9 => by first | omega | exact absurd q9.2 (by assumption) | exact absurd q9.2.1 (by assumption) | exact absurd q9.2.2 (by assumption)))]; rw [if_pos (by first | assumption | omega | exact ⟨by first | assumption | omega, by first | assumption | omega⟩ | exact ⟨by first | assumption | omega, by first | assumption | omega, by first | assumption | omega⟩)]
                    exact hret _ H _ _ _ _ _ (show some (Value.int (nI (N 0))) = some (Value.int ((chg N Z v w).1)) ∧ wst G T q a (chg N Z v w).2.1 (chg N Z v w).2.2 b tx L cu er le nb nc H from ⟨by rw [hv9], by rw [hv9]; exact wst_sv hsc hP⟩) rfl hS (Nat.le_of_ble_eq_true rfl) (Nat.le_of_ble_eq_true rfl) dL_change_231
                · replace c_5 := cn_nle (a := (N 0)) (b := 0) (by omega) (by omega) c_5
                  refine lv_iload hx hb dL_change_194 (lv_at hl 6 rfl) ?_
                  refine lv_bipush (v := 6) hx hb dL_change_196 (by decide) ?_
                  refine lv_icmp_ge (tgt := 215) hx hb dL_change_198 (by decide) (fun c_7 => ?_) (fun c_7 => ?_)
                  · replace c_7 := cn_le (a := 6) (b := (N 1)) (by omega) (by omega) c_7
                    refine lv_iload_n hx hb dL_change_215 rfl (lv_at hl 5 rfl) ?_
                    refine lv_if_ne (tgt := 230) hx hb dL_change_216 (by decide) (fun c_8 => ?_) (fun c_8 => ?_)
                    · replace c_8 := cn_ne (a := (N 0)) (b := 0) (by omega) (by omega) c_8
                      refine lv_iconst (v := 0) hx hb dL_change_230 (by decide) ?_
                      have hv9 : chg N Z v w = (0, N, Z) := by rw [hg]; unfold ch1; rw [if_neg (by first | assumption | omega | exact (fun q9 => by first | omega | exact absurd q9.2 (by assumption) | exact absurd q9.2.1 (by assumption) | exact absurd q9.2.2 (by assumption)))]; rw [if_neg (by first | assumption | omega | exact (fun q9 => by first | omega | exact absurd q9.2 (by assumption) | exact absurd q9.2.1 (by assumption) | exact absurd q9.2.2 (by assumption)))]
                      exact hret _ H _ _ _ _ _ (show some (Value.int 0) = some (Value.int ((chg N Z v w).1)) ∧ wst G T q a (chg N Z v w).2.1 (chg N Z v w).2.2 b tx L cu er le nb nc H from ⟨by rw [hv9], by rw [hv9]; exact wst_id hsc hP⟩) rfl hS (Nat.le_of_ble_eq_true rfl) (Nat.le_of_ble_eq_true rfl) dL_change_231
                    · exfalso; replace c_8 := cn_eq (a := N 0) (b := 0) (by omega) (by omega) c_8; omega
                  · replace c_7 := cn_nle (a := 6) (b := (N 1)) (by omega) (by omega) c_7
                    refine lv_aload_n hx hb dL_change_201 rfl (lv_at hl 2 rfl) ?_
                    refine lv_iload_n hx hb dL_change_202 rfl (lv_at hl 4 rfl) ?_
                    refine lv_iconst (v := 1) hx hb dL_change_203 (by decide) ?_
                    refine lv_iload_n hx hb dL_change_204 rfl (lv_at hl 5 rfl) ?_
                    refine lv_ishl hx hb dL_change_205 ?_
                    refine W.eq (g2 := F0 m 206 ls [.int (nI (2 ^ N 0)), .int w, .ref (q 0)]) (congrArg (fun z9 => F0 m 206 ls (.int z9 :: [.int w, .ref (q 0)])) (sh_1 (N 0) (by omega))) ?_
                    refine ro_S S hkx (mL_low l (v := w) (k := (2 ^ N 0)) (h0 := (Nat.pow_pos (by decide))) (hk := (Nat.pow_lt_pow_right (by decide) (by omega)))) gL_change_L_low rfl idL_low.2 ⟨Nat.le_of_ble_eq_true rfl, Nat.le_of_ble_eq_true rfl⟩ rfl hl.1 rfl (Nat.le_of_ble_eq_true rfl) dL_change_206 ⟨Nat.le_of_ble_eq_true rfl, Nat.le_of_ble_eq_true rfl⟩ (fun r9 hr9 => ?_)
                    subst hr9
                    refine W.eq (g2 := F0 m 209 ls [.int (nI (lowN w (2 ^ N 0))), .ref (q 0)]) rfl ?_
                    refine wn_V S hkx hth (nX5_addFeature l hl0 (sa := sa) (A9 := A) (h9 := (fun q h => hA q (Nat.le_trans hS.1 h))) (hP := hP) (hD := hD.weaken (fun _ _ _ _ => trivial)) (hwf := hwf) (hsc := (by omega)) (hx := (lowN_lt _ (Nat.pow_pos (by decide)))) (h8 := (by omega)) (x := (lowN w (2 ^ N 0)))) gL_change_X5_addFeature rfl idX5_addFeature ⟨Nat.le_of_ble_eq_true rfl, Nat.le_of_ble_eq_true rfl⟩ hP 0 rfl rfl rfl rfl hl.1 rfl (Nat.le_of_ble_eq_true rfl) dL_change_209 ⟨Nat.le_of_ble_eq_true rfl, Nat.le_of_ble_eq_true rfl⟩ hS (fr_in hD (fun q h => hA q (Nat.le_trans hS.1 h))) (fun v9 H locs hp9 hz1 hk1 hS => ?_)
                    obtain ⟨rfl, hP⟩ := hp9
                    have hP : va_P G vwCl (wMain T q a (va_up N 1 (N 1 + 1)) (va_up Z 4 (apF (Z 4) (nI (lowN w (2 ^ N 0))) (N 1) (N 0))) (svB sc b) (psh sc M N) (psh sc Y Z) (svC sc) tx L cu er le nb nc) H := hP
                    have hD : va_D A (wMain T q a (va_up N 1 (N 1 + 1)) (va_up Z 4 (apF (Z 4) (nI (lowN w (2 ^ N 0))) (N 1) (N 0))) (svB sc b) (psh sc M N) (psh sc Y Z) (svC sc) tx L cu er le nb nc) := D_perm hD sv_addr
                    have hth := hth0.kept hS.2.1
                    refine W.eq (g2 := F0 m 212 ls [.int (nI (N 1))]) rfl ?_
                    refine lv_goto (tgt := 231) hx hb dL_change_212 (by decide) ?_
                    have hv9 : chg N Z v w = ((nI (N 1)), (va_up N 1 (N 1 + 1)), (va_up Z 4 (apF (Z 4) (nI (lowN w (2 ^ N 0))) (N 1) (N 0)))) := by rw [hg]; unfold ch1; rw [if_pos (by first | assumption | omega | exact ⟨by first | assumption | omega, by first | assumption | omega⟩ | exact ⟨by first | assumption | omega, by first | assumption | omega, by first | assumption | omega⟩)]
                    exact hret _ H _ _ _ _ _ (show some (Value.int (nI (N 1))) = some (Value.int ((chg N Z v w).1)) ∧ wst G T q a (chg N Z v w).2.1 (chg N Z v w).2.2 b tx L cu er le nb nc H from ⟨by rw [hv9], by rw [hv9]; exact wst_sv hsc hP⟩) rfl hS (Nat.le_of_ble_eq_true rfl) (Nat.le_of_ble_eq_true rfl) dL_change_231
              · refine lv_tableIn (off := 140) (tgt := 232) hx hb dL_change_92 (by decide) (by decide) rfl (by decide) ?_
                have hg : chg N Z v w = ch2 N Z v := by unfold chg; rw [hcz]; rfl
                refine lv_iload_n hx hb dL_change_232 rfl (lv_at hl 5 rfl) ?_
                refine lv_if_le (tgt := 272) hx hb dL_change_233 (by decide) (fun c_9 => ?_) (fun c_9 => ?_)
                · replace c_9 := cn_le (a := (N 0)) (b := 0) (by omega) (by omega) c_9
                  refine lv_iconst (v := 0) hx hb dL_change_272 (by decide) ?_
                  have hv9 : chg N Z v w = (0, N, Z) := by rw [hg]; unfold ch2; rw [if_neg (by first | assumption | omega | exact (fun q9 => by first | omega | exact absurd q9.2 (by assumption) | exact absurd q9.2.1 (by assumption) | exact absurd q9.2.2 (by assumption)))]
                  exact hret _ H _ _ _ _ _ (show some (Value.int 0) = some (Value.int ((chg N Z v w).1)) ∧ wst G T q a (chg N Z v w).2.1 (chg N Z v w).2.2 b tx L cu er le nb nc H from ⟨by rw [hv9], by rw [hv9]; exact wst_id hsc hP⟩) rfl hS (Nat.le_of_ble_eq_true rfl) (Nat.le_of_ble_eq_true rfl) dL_change_273
                · replace c_9 := cn_nle (a := (N 0)) (b := 0) (by omega) (by omega) c_9
                  refine lv_iload hx hb dL_change_236 (lv_at hl 6 rfl) ?_
                  refine lv_if_le (tgt := 272) hx hb dL_change_238 (by decide) (fun c_10 => ?_) (fun c_10 => ?_)
                  · replace c_10 := cn_le (a := (N 1)) (b := 0) (by omega) (by omega) c_10
                    refine lv_iconst (v := 0) hx hb dL_change_272 (by decide) ?_
                    have hv9 : chg N Z v w = (0, N, Z) := by rw [hg]; unfold ch2; rw [if_neg (by first | assumption | omega | exact (fun q9 => by first | omega | exact absurd q9.2 (by assumption) | exact absurd q9.2.1 (by assumption) | exact absurd q9.2.2 (by assumption)))]
                    exact hret _ H _ _ _ _ _ (show some (Value.int 0) = some (Value.int ((chg N Z v w).1)) ∧ wst G T q a (chg N Z v w).2.1 (chg N Z v w).2.2 b tx L cu er le nb nc H from ⟨by rw [hv9], by rw [hv9]; exact wst_id hsc hP⟩) rfl hS (Nat.le_of_ble_eq_true rfl) (Nat.le_of_ble_eq_true rfl) dL_change_273
                  · replace c_10 := cn_nle (a := (N 1)) (b := 0) (by omega) (by omega) c_10
                    refine lv_aload_n hx hb dL_change_241 rfl (lv_at hl 2 rfl) ?_
                    refine lv_iload hx hb dL_change_242 (lv_at hl 1 rfl) ?_
                    refine lv_iload hx hb dL_change_244 (lv_at hl 9 rfl) ?_
                    refine lv_aload_n hx hb dL_change_246 rfl (lv_at hl 2 rfl) ?_
                    refine lv_iload hx hb dL_change_247 (lv_at hl 9 rfl) ?_
                    refine lv_iconst (v := 2) hx hb dL_change_249 (by decide) ?_
                    refine rn_V S hkx hth (nX5_version l hl0 (sa := sa) (h9 := (fun q h => hA q (Nat.le_trans hS.1 h))) (hP := hP) (hwf := hwf) (hv := (chA_lt (by omega))) (hw := (by omega)) (v := (chA N v)) (w := 2)) gL_change_X5_version rfl idX5_version ⟨Nat.le_of_ble_eq_true rfl, Nat.le_of_ble_eq_true rfl⟩ hP 0 rfl rfl rfl rfl hl.1 rfl (Nat.le_of_ble_eq_true rfl) dL_change_250 ⟨Nat.le_of_ble_eq_true rfl, Nat.le_of_ble_eq_true rfl⟩ (fun v9 hv9 => ?_)
                    subst hv9
                    refine W.eq (g2 := F0 m 253 ls [.int (Z 4 (chA N v)), .int (nI (chA N v)), .int (nI (chF N v)), .ref (q 0)]) rfl ?_
                    refine lv_iload hx hb dL_change_253 (lv_at hl 1 rfl) ?_
                    refine lv_ishr hx hb dL_change_255 ?_
                    refine lv_iconst (v := 1) hx hb dL_change_256 (by decide) ?_
                    refine lv_iand hx hb dL_change_257 ?_
                    refine W.eq (g2 := F0 m 258 ls [.int (bI (cnt1 (Z 4 (chA N v)) (nI (chF N v)))), .int (nI (chA N v)), .int (nI (chF N v)), .ref (q 0)]) (congrArg (fun z9 => F0 m 258 ls (.int z9 :: [.int (nI (chA N v)), .int (nI (chF N v)), .ref (q 0)])) (and_cn (Nat.lt_of_lt_of_le (chF_lt (by omega)) (by omega)))) ?_
                    refine lv_if_ne (tgt := 265) hx hb dL_change_258 (by decide) (fun c_11 => ?_) (fun c_11 => ?_)
                    · replace c_11 := bI_n0 c_11
                      refine lv_iconst (v := 0) hx hb dL_change_265 (by decide) ?_
                      refine W.eq (g2 := F0 m 266 ls [.int (bI false), .int (nI (chA N v)), .int (nI (chF N v)), .ref (q 0)]) (congrArg (fun z9 => F0 m 266 ls (.int z9 :: [.int (nI (chA N v)), .int (nI (chF N v)), .ref (q 0)])) (rfl)) ?_
                      refine wn_V S hkx hth (nX5_put l hl0 (sa := sa) (A9 := A) (h9 := (fun q h => hA q (Nat.le_trans hS.1 h))) (hP := hP) (hD := hD.weaken (fun _ _ _ _ => trivial)) (hwf := hwf) (hsc := (by omega)) (hf := (chF_lt (by omega))) (hv := (chA_lt (by omega))) (h8 := (by first | (rw [show cnt1 (Z 4 (chA N v)) (nI (chF N v)) = true by assumption]; decide) | (rw [show cnt1 (Z 4 (chA N v)) (nI (chF N v)) = false by assumption]; decide))) (f := (chF N v)) (v := (chA N v)) (h := false)) gL_change_X5_put rfl idX5_put ⟨Nat.le_of_ble_eq_true rfl, Nat.le_of_ble_eq_true rfl⟩ hP 0 rfl rfl rfl rfl hl.1 rfl (Nat.le_of_ble_eq_true rfl) dL_change_266 ⟨Nat.le_of_ble_eq_true rfl, Nat.le_of_ble_eq_true rfl⟩ hS (fr_in hD (fun q h => hA q (Nat.le_trans hS.1 h))) (fun v9 H locs hp9 hz1 hk1 hS => ?_)
                      obtain ⟨rfl, hP⟩ := hp9
                      have hP : va_P G vwCl (wMain T q a N (va_up Z 4 (upd (Z 4) (chA N v) (Z 4 (chA N v) ^^^ ((1 : Int32) <<< (nI (chF N v) &&& 31))))) (svB sc b) (psh sc M N) (psh sc Y Z) (svC sc) tx L cu er le nb nc) H := hP
                      have hD : va_D A (wMain T q a N (va_up Z 4 (upd (Z 4) (chA N v) (Z 4 (chA N v) ^^^ ((1 : Int32) <<< (nI (chF N v) &&& 31))))) (svB sc b) (psh sc M N) (psh sc Y Z) (svC sc) tx L cu er le nb nc) := D_perm hD sv_addr
                      have hth := hth0.kept hS.2.1
                      refine W.eq (g2 := F0 m 269 ls [.int (allW (va_up Z 4 (upd (Z 4) (chA N v) (Z 4 (chA N v) ^^^ ((1 : Int32) <<< (nI (chF N v) &&& 31))))) (nI (chF N v)) (N 0))]) rfl ?_
                      refine lv_goto (tgt := 273) hx hb dL_change_269 (by decide) ?_
                      have hv9 : chg N Z v w = ((allW (va_up Z 4 (upd (Z 4) (chA N v) (Z 4 (chA N v) ^^^ ((1 : Int32) <<< (nI (chF N v) &&& 31))))) (nI (chF N v)) (N 0)), N, (va_up Z 4 (upd (Z 4) (chA N v) (Z 4 (chA N v) ^^^ ((1 : Int32) <<< (nI (chF N v) &&& 31)))))) := by rw [hg]; unfold ch2; rw [if_pos (by first | assumption | omega | exact ⟨by first | assumption | omega, by first | assumption | omega⟩ | exact ⟨by first | assumption | omega, by first | assumption | omega, by first | assumption | omega⟩)]
                      exact hret _ H _ _ _ _ _ (show some (Value.int (allW (va_up Z 4 (upd (Z 4) (chA N v) (Z 4 (chA N v) ^^^ ((1 : Int32) <<< (nI (chF N v) &&& 31))))) (nI (chF N v)) (N 0))) = some (Value.int ((chg N Z v w).1)) ∧ wst G T q a (chg N Z v w).2.1 (chg N Z v w).2.2 b tx L cu er le nb nc H from ⟨by rw [hv9], by rw [hv9]; exact wst_sv hsc hP⟩) rfl hS (Nat.le_of_ble_eq_true rfl) (Nat.le_of_ble_eq_true rfl) dL_change_273
                    · replace c_11 := bI_e0 c_11
                      refine lv_iconst (v := 1) hx hb dL_change_261 (by decide) ?_
                      refine lv_goto (tgt := 266) hx hb dL_change_262 (by decide) ?_
                      refine W.eq (g2 := F0 m 266 ls [.int (bI true), .int (nI (chA N v)), .int (nI (chF N v)), .ref (q 0)]) (congrArg (fun z9 => F0 m 266 ls (.int z9 :: [.int (nI (chA N v)), .int (nI (chF N v)), .ref (q 0)])) (rfl)) ?_
                      refine wn_V S hkx hth (nX5_put l hl0 (sa := sa) (A9 := A) (h9 := (fun q h => hA q (Nat.le_trans hS.1 h))) (hP := hP) (hD := hD.weaken (fun _ _ _ _ => trivial)) (hwf := hwf) (hsc := (by omega)) (hf := (chF_lt (by omega))) (hv := (chA_lt (by omega))) (h8 := (by first | (rw [show cnt1 (Z 4 (chA N v)) (nI (chF N v)) = true by assumption]; decide) | (rw [show cnt1 (Z 4 (chA N v)) (nI (chF N v)) = false by assumption]; decide))) (f := (chF N v)) (v := (chA N v)) (h := true)) gL_change_X5_put rfl idX5_put ⟨Nat.le_of_ble_eq_true rfl, Nat.le_of_ble_eq_true rfl⟩ hP 0 rfl rfl rfl rfl hl.1 rfl (Nat.le_of_ble_eq_true rfl) dL_change_266 ⟨Nat.le_of_ble_eq_true rfl, Nat.le_of_ble_eq_true rfl⟩ hS (fr_in hD (fun q h => hA q (Nat.le_trans hS.1 h))) (fun v9 H locs hp9 hz1 hk1 hS => ?_)
                      obtain ⟨rfl, hP⟩ := hp9
                      have hP : va_P G vwCl (wMain T q a N (va_up Z 4 (upd (Z 4) (chA N v) (Z 4 (chA N v) ^^^ ((1 : Int32) <<< (nI (chF N v) &&& 31))))) (svB sc b) (psh sc M N) (psh sc Y Z) (svC sc) tx L cu er le nb nc) H := hP
                      have hD : va_D A (wMain T q a N (va_up Z 4 (upd (Z 4) (chA N v) (Z 4 (chA N v) ^^^ ((1 : Int32) <<< (nI (chF N v) &&& 31))))) (svB sc b) (psh sc M N) (psh sc Y Z) (svC sc) tx L cu er le nb nc) := D_perm hD sv_addr
                      have hth := hth0.kept hS.2.1
                      refine W.eq (g2 := F0 m 269 ls [.int (allW (va_up Z 4 (upd (Z 4) (chA N v) (Z 4 (chA N v) ^^^ ((1 : Int32) <<< (nI (chF N v) &&& 31))))) (nI (chF N v)) (N 0))]) rfl ?_
                      refine lv_goto (tgt := 273) hx hb dL_change_269 (by decide) ?_
                      have hv9 : chg N Z v w = ((allW (va_up Z 4 (upd (Z 4) (chA N v) (Z 4 (chA N v) ^^^ ((1 : Int32) <<< (nI (chF N v) &&& 31))))) (nI (chF N v)) (N 0)), N, (va_up Z 4 (upd (Z 4) (chA N v) (Z 4 (chA N v) ^^^ ((1 : Int32) <<< (nI (chF N v) &&& 31)))))) := by rw [hg]; unfold ch2; rw [if_pos (by first | assumption | omega | exact ⟨by first | assumption | omega, by first | assumption | omega⟩ | exact ⟨by first | assumption | omega, by first | assumption | omega, by first | assumption | omega⟩)]
                      exact hret _ H _ _ _ _ _ (show some (Value.int (allW (va_up Z 4 (upd (Z 4) (chA N v) (Z 4 (chA N v) ^^^ ((1 : Int32) <<< (nI (chF N v) &&& 31))))) (nI (chF N v)) (N 0))) = some (Value.int ((chg N Z v w).1)) ∧ wst G T q a (chg N Z v w).2.1 (chg N Z v w).2.2 b tx L cu er le nb nc H from ⟨by rw [hv9], by rw [hv9]; exact wst_sv hsc hP⟩) rfl hS (Nat.le_of_ble_eq_true rfl) (Nat.le_of_ble_eq_true rfl) dL_change_273
              · refine lv_tableIn (off := 182) (tgt := 274) hx hb dL_change_92 (by decide) (by decide) rfl (by decide) ?_
                have hg : chg N Z v w = ch3 N Z v w := by unfold chg; rw [hcz]; rfl
                refine lv_iload_n hx hb dL_change_274 rfl (lv_at hl 5 rfl) ?_
                refine lv_if_le (tgt := 303) hx hb dL_change_275 (by decide) (fun c_12 => ?_) (fun c_12 => ?_)
                · replace c_12 := cn_le (a := (N 0)) (b := 0) (by omega) (by omega) c_12
                  refine lv_iconst (v := 0) hx hb dL_change_303 (by decide) ?_
                  have hv9 : chg N Z v w = (0, N, Z) := by rw [hg]; unfold ch3; rw [if_neg (by first | assumption | omega | exact (fun q9 => by first | omega | exact absurd q9.2 (by assumption) | exact absurd q9.2.1 (by assumption) | exact absurd q9.2.2 (by assumption)))]
                  exact hret _ H _ _ _ _ _ (show some (Value.int 0) = some (Value.int ((chg N Z v w).1)) ∧ wst G T q a (chg N Z v w).2.1 (chg N Z v w).2.2 b tx L cu er le nb nc H from ⟨by rw [hv9], by rw [hv9]; exact wst_id hsc hP⟩) rfl hS (Nat.le_of_ble_eq_true rfl) (Nat.le_of_ble_eq_true rfl) dL_change_304
                · replace c_12 := cn_nle (a := (N 0)) (b := 0) (by omega) (by omega) c_12
                  refine lv_iload hx hb dL_change_278 (lv_at hl 7 rfl) ?_
                  refine lv_iconst (v := 5) hx hb dL_change_280 (by decide) ?_
                  refine lv_icmp_ge (tgt := 303) hx hb dL_change_281 (by decide) (fun c_13 => ?_) (fun c_13 => ?_)
                  · replace c_13 := cn_le (a := 5) (b := (N 2)) (by omega) (by omega) c_13
                    refine lv_iconst (v := 0) hx hb dL_change_303 (by decide) ?_
                    have hv9 : chg N Z v w = (0, N, Z) := by rw [hg]; unfold ch3; rw [if_neg (by first | assumption | omega | exact (fun q9 => by first | omega | exact absurd q9.2 (by assumption) | exact absurd q9.2.1 (by assumption) | exact absurd q9.2.2 (by assumption)))]
                    exact hret _ H _ _ _ _ _ (show some (Value.int 0) = some (Value.int ((chg N Z v w).1)) ∧ wst G T q a (chg N Z v w).2.1 (chg N Z v w).2.2 b tx L cu er le nb nc H from ⟨by rw [hv9], by rw [hv9]; exact wst_id hsc hP⟩) rfl hS (Nat.le_of_ble_eq_true rfl) (Nat.le_of_ble_eq_true rfl) dL_change_304
                  · replace c_13 := cn_nle (a := 5) (b := (N 2)) (by omega) (by omega) c_13
                    refine lv_aload_n hx hb dL_change_284 rfl (lv_at hl 2 rfl) ?_
                    refine lv_iload hx hb dL_change_285 (lv_at hl 9 rfl) ?_
                    refine lv_iload_n hx hb dL_change_287 rfl (lv_at hl 4 rfl) ?_
                    refine lv_iconst (v := 3) hx hb dL_change_288 (by decide) ?_
                    refine lv_ishr hx hb dL_change_289 ?_
                    refine lv_iconst (v := 1) hx hb dL_change_290 (by decide) ?_
                    refine lv_iload hx hb dL_change_291 (lv_at hl 6 rfl) ?_
                    refine lv_ishl hx hb dL_change_293 ?_
                    refine W.eq (g2 := F0 m 294 ls [.int (nI (2 ^ N 1)), .int (w >>> (3 &&& 31)), .int (nI (chA N v)), .ref (q 0)]) (congrArg (fun z9 => F0 m 294 ls (.int z9 :: [.int (w >>> (3 &&& 31)), .int (nI (chA N v)), .ref (q 0)])) (sh_1 (N 1) (by omega))) ?_
                    refine ro_S S hkx (mL_low l (v := (w >>> (3 &&& 31))) (k := (2 ^ N 1)) (h0 := (Nat.pow_pos (by decide))) (hk := (Nat.pow_lt_pow_right (by decide) (by omega)))) gL_change_L_low rfl idL_low.2 ⟨Nat.le_of_ble_eq_true rfl, Nat.le_of_ble_eq_true rfl⟩ rfl hl.1 rfl (Nat.le_of_ble_eq_true rfl) dL_change_294 ⟨Nat.le_of_ble_eq_true rfl, Nat.le_of_ble_eq_true rfl⟩ (fun r9 hr9 => ?_)
                    subst hr9
                    refine W.eq (g2 := F0 m 297 ls [.int (nI (lowN (w >>> (3 &&& 31)) (2 ^ N 1))), .int (nI (chA N v)), .ref (q 0)]) rfl ?_
                    refine wn_V S hkx hth (nX5_addUser l hl0 (sa := sa) (A9 := A) (h9 := (fun q h => hA q (Nat.le_trans hS.1 h))) (hP := hP) (hD := hD.weaken (fun _ _ _ _ => trivial)) (hwf := hwf) (hsc := (by omega)) (hv := (chA_lt (by omega))) (hx := (lowN_lt _ (Nat.pow_pos (by decide)))) (h8 := (by omega)) (v := (chA N v)) (x := (lowN (w >>> (3 &&& 31)) (2 ^ N 1)))) gL_change_X5_addUser rfl idX5_addUser ⟨Nat.le_of_ble_eq_true rfl, Nat.le_of_ble_eq_true rfl⟩ hP 0 rfl rfl rfl rfl hl.1 rfl (Nat.le_of_ble_eq_true rfl) dL_change_297 ⟨Nat.le_of_ble_eq_true rfl, Nat.le_of_ble_eq_true rfl⟩ hS (fr_in hD (fun q h => hA q (Nat.le_trans hS.1 h))) (fun v9 H locs hp9 hz1 hk1 hS => ?_)
                    obtain ⟨rfl, hP⟩ := hp9
                    have hP : va_P G vwCl (wMain T q a (va_up N 2 (N 2 + 1)) (uAdd N Z (nI (chA N v)) (nI (lowN (w >>> (3 &&& 31)) (2 ^ N 1)))) (svB sc b) (psh sc M N) (psh sc Y Z) (svC sc) tx L cu er le nb nc) H := hP
                    have hD : va_D A (wMain T q a (va_up N 2 (N 2 + 1)) (uAdd N Z (nI (chA N v)) (nI (lowN (w >>> (3 &&& 31)) (2 ^ N 1)))) (svB sc b) (psh sc M N) (psh sc Y Z) (svC sc) tx L cu er le nb nc) := D_perm hD sv_addr
                    have hth := hth0.kept hS.2.1
                    refine W.eq (g2 := F0 m 300 ls [.int (nI (N 2))]) rfl ?_
                    refine lv_goto (tgt := 304) hx hb dL_change_300 (by decide) ?_
                    have hv9 : chg N Z v w = ((nI (N 2)), (va_up N 2 (N 2 + 1)), (uAdd N Z (nI (chA N v)) (nI (lowN (w >>> (3 &&& 31)) (2 ^ N 1))))) := by rw [hg]; unfold ch3; rw [if_pos (by first | assumption | omega | exact ⟨by first | assumption | omega, by first | assumption | omega⟩ | exact ⟨by first | assumption | omega, by first | assumption | omega, by first | assumption | omega⟩)]
                    exact hret _ H _ _ _ _ _ (show some (Value.int (nI (N 2))) = some (Value.int ((chg N Z v w).1)) ∧ wst G T q a (chg N Z v w).2.1 (chg N Z v w).2.2 b tx L cu er le nb nc H from ⟨by rw [hv9], by rw [hv9]; exact wst_sv hsc hP⟩) rfl hS (Nat.le_of_ble_eq_true rfl) (Nat.le_of_ble_eq_true rfl) dL_change_304
              · refine lv_tableIn (off := 213) (tgt := 305) hx hb dL_change_92 (by decide) (by decide) rfl (by decide) ?_
                have hg : chg N Z v w = ch4 N Z v w := by unfold chg; rw [hcz]; rfl
                refine lv_iload hx hb dL_change_305 (lv_at hl 7 rfl) ?_
                refine lv_if_le (tgt := 328) hx hb dL_change_307 (by decide) (fun c_14 => ?_) (fun c_14 => ?_)
                · replace c_14 := cn_le (a := (N 2)) (b := 0) (by omega) (by omega) c_14
                  refine lv_iconst (v := 0) hx hb dL_change_328 (by decide) ?_
                  have hv9 : chg N Z v w = (0, N, Z) := by rw [hg]; unfold ch4; rw [if_neg (by first | assumption | omega | exact (fun q9 => by first | omega | exact absurd q9.2 (by assumption) | exact absurd q9.2.1 (by assumption) | exact absurd q9.2.2 (by assumption)))]
                  exact hret _ H _ _ _ _ _ (show some (Value.int 0) = some (Value.int ((chg N Z v w).1)) ∧ wst G T q a (chg N Z v w).2.1 (chg N Z v w).2.2 b tx L cu er le nb nc H from ⟨by rw [hv9], by rw [hv9]; exact wst_id hsc hP⟩) rfl hS (Nat.le_of_ble_eq_true rfl) (Nat.le_of_ble_eq_true rfl) dL_change_329
                · replace c_14 := cn_nle (a := (N 2)) (b := 0) (by omega) (by omega) c_14
                  refine lv_aload_n hx hb dL_change_310 rfl (lv_at hl 2 rfl) ?_
                  refine lv_iload hx hb dL_change_311 (lv_at hl 8 rfl) ?_
                  refine lv_iload hx hb dL_change_313 (lv_at hl 9 rfl) ?_
                  refine lv_iload_n hx hb dL_change_315 rfl (lv_at hl 4 rfl) ?_
                  refine lv_sipush (v := 1000) hx hb dL_change_316 (by decide) ?_
                  refine ro_S S hkx (mL_low l (v := w) (k := 1000) (h0 := (by omega)) (hk := (by omega))) gL_change_L_low rfl idL_low.2 ⟨Nat.le_of_ble_eq_true rfl, Nat.le_of_ble_eq_true rfl⟩ rfl hl.1 rfl (Nat.le_of_ble_eq_true rfl) dL_change_319 ⟨Nat.le_of_ble_eq_true rfl, Nat.le_of_ble_eq_true rfl⟩ (fun r9 hr9 => ?_)
                  subst hr9
                  refine W.eq (g2 := F0 m 322 ls [.int (nI (lowN w 1000)), .int (nI (chA N v)), .int (nI (chU N v)), .ref (q 0)]) rfl ?_
                  refine wn_V S hkx hth (nX5_pledge l hl0 (sa := sa) (A9 := A) (h9 := (fun q h => hA q (Nat.le_trans hS.1 h))) (hP := hP) (hD := hD.weaken (fun _ _ _ _ => trivial)) (hwf := hwf) (hsc := (by omega)) (hu := (chU_lt (by omega))) (hv := (chA_lt (u_v hwf (by omega)))) (hd := (by omega)) (u := (chU N v)) (v := (chA N v)) (d := (lowN w 1000))) gL_change_X5_pledge rfl idX5_pledge ⟨Nat.le_of_ble_eq_true rfl, Nat.le_of_ble_eq_true rfl⟩ hP 0 rfl rfl rfl rfl hl.1 rfl (Nat.le_of_ble_eq_true rfl) dL_change_322 ⟨Nat.le_of_ble_eq_true rfl, Nat.le_of_ble_eq_true rfl⟩ hS (fr_in hD (fun q h => hA q (Nat.le_trans hS.1 h))) (fun v9 H locs hp9 hz1 hk1 hS => ?_)
                  obtain ⟨rfl, hP⟩ := hp9
                  have hP : va_P G vwCl (wMain T q a N (uPl Z (chU N v) (nI (chA N v)) (nI (lowN w 1000))) (svB sc b) (psh sc M N) (psh sc Y Z) (svC sc) tx L cu er le nb nc) H := hP
                  have hD : va_D A (wMain T q a N (uPl Z (chU N v) (nI (chA N v)) (nI (lowN w 1000))) (svB sc b) (psh sc M N) (psh sc Y Z) (svC sc) tx L cu er le nb nc) := D_perm hD sv_addr
                  have hth := hth0.kept hS.2.1
                  refine W.eq (g2 := F0 m 325 ls [.int (Z 8 (chU N v))]) rfl ?_
                  refine lv_goto (tgt := 329) hx hb dL_change_325 (by decide) ?_
                  have hv9 : chg N Z v w = ((Z 8 (chU N v)), N, (uPl Z (chU N v) (nI (chA N v)) (nI (lowN w 1000)))) := by rw [hg]; unfold ch4; rw [if_pos (by first | assumption | omega | exact ⟨by first | assumption | omega, by first | assumption | omega⟩ | exact ⟨by first | assumption | omega, by first | assumption | omega, by first | assumption | omega⟩)]
                  exact hret _ H _ _ _ _ _ (show some (Value.int (Z 8 (chU N v))) = some (Value.int ((chg N Z v w).1)) ∧ wst G T q a (chg N Z v w).2.1 (chg N Z v w).2.2 b tx L cu er le nb nc H from ⟨by rw [hv9], by rw [hv9]; exact wst_sv hsc hP⟩) rfl hS (Nat.le_of_ble_eq_true rfl) (Nat.le_of_ble_eq_true rfl) dL_change_329
              · refine lv_tableIn (off := 213) (tgt := 305) hx hb dL_change_92 (by decide) (by decide) rfl (by decide) ?_
                have hg : chg N Z v w = ch4 N Z v w := by unfold chg; rw [hcz]; rfl
                refine lv_iload hx hb dL_change_305 (lv_at hl 7 rfl) ?_
                refine lv_if_le (tgt := 328) hx hb dL_change_307 (by decide) (fun c_15 => ?_) (fun c_15 => ?_)
                · replace c_15 := cn_le (a := (N 2)) (b := 0) (by omega) (by omega) c_15
                  refine lv_iconst (v := 0) hx hb dL_change_328 (by decide) ?_
                  have hv9 : chg N Z v w = (0, N, Z) := by rw [hg]; unfold ch4; rw [if_neg (by first | assumption | omega | exact (fun q9 => by first | omega | exact absurd q9.2 (by assumption) | exact absurd q9.2.1 (by assumption) | exact absurd q9.2.2 (by assumption)))]
                  exact hret _ H _ _ _ _ _ (show some (Value.int 0) = some (Value.int ((chg N Z v w).1)) ∧ wst G T q a (chg N Z v w).2.1 (chg N Z v w).2.2 b tx L cu er le nb nc H from ⟨by rw [hv9], by rw [hv9]; exact wst_id hsc hP⟩) rfl hS (Nat.le_of_ble_eq_true rfl) (Nat.le_of_ble_eq_true rfl) dL_change_329
                · replace c_15 := cn_nle (a := (N 2)) (b := 0) (by omega) (by omega) c_15
                  refine lv_aload_n hx hb dL_change_310 rfl (lv_at hl 2 rfl) ?_
                  refine lv_iload hx hb dL_change_311 (lv_at hl 8 rfl) ?_
                  refine lv_iload hx hb dL_change_313 (lv_at hl 9 rfl) ?_
                  refine lv_iload_n hx hb dL_change_315 rfl (lv_at hl 4 rfl) ?_
                  refine lv_sipush (v := 1000) hx hb dL_change_316 (by decide) ?_
                  refine ro_S S hkx (mL_low l (v := w) (k := 1000) (h0 := (by omega)) (hk := (by omega))) gL_change_L_low rfl idL_low.2 ⟨Nat.le_of_ble_eq_true rfl, Nat.le_of_ble_eq_true rfl⟩ rfl hl.1 rfl (Nat.le_of_ble_eq_true rfl) dL_change_319 ⟨Nat.le_of_ble_eq_true rfl, Nat.le_of_ble_eq_true rfl⟩ (fun r9 hr9 => ?_)
                  subst hr9
                  refine W.eq (g2 := F0 m 322 ls [.int (nI (lowN w 1000)), .int (nI (chA N v)), .int (nI (chU N v)), .ref (q 0)]) rfl ?_
                  refine wn_V S hkx hth (nX5_pledge l hl0 (sa := sa) (A9 := A) (h9 := (fun q h => hA q (Nat.le_trans hS.1 h))) (hP := hP) (hD := hD.weaken (fun _ _ _ _ => trivial)) (hwf := hwf) (hsc := (by omega)) (hu := (chU_lt (by omega))) (hv := (chA_lt (u_v hwf (by omega)))) (hd := (by omega)) (u := (chU N v)) (v := (chA N v)) (d := (lowN w 1000))) gL_change_X5_pledge rfl idX5_pledge ⟨Nat.le_of_ble_eq_true rfl, Nat.le_of_ble_eq_true rfl⟩ hP 0 rfl rfl rfl rfl hl.1 rfl (Nat.le_of_ble_eq_true rfl) dL_change_322 ⟨Nat.le_of_ble_eq_true rfl, Nat.le_of_ble_eq_true rfl⟩ hS (fr_in hD (fun q h => hA q (Nat.le_trans hS.1 h))) (fun v9 H locs hp9 hz1 hk1 hS => ?_)
                  obtain ⟨rfl, hP⟩ := hp9
                  have hP : va_P G vwCl (wMain T q a N (uPl Z (chU N v) (nI (chA N v)) (nI (lowN w 1000))) (svB sc b) (psh sc M N) (psh sc Y Z) (svC sc) tx L cu er le nb nc) H := hP
                  have hD : va_D A (wMain T q a N (uPl Z (chU N v) (nI (chA N v)) (nI (lowN w 1000))) (svB sc b) (psh sc M N) (psh sc Y Z) (svC sc) tx L cu er le nb nc) := D_perm hD sv_addr
                  have hth := hth0.kept hS.2.1
                  refine W.eq (g2 := F0 m 325 ls [.int (Z 8 (chU N v))]) rfl ?_
                  refine lv_goto (tgt := 329) hx hb dL_change_325 (by decide) ?_
                  have hv9 : chg N Z v w = ((Z 8 (chU N v)), N, (uPl Z (chU N v) (nI (chA N v)) (nI (lowN w 1000)))) := by rw [hg]; unfold ch4; rw [if_pos (by first | assumption | omega | exact ⟨by first | assumption | omega, by first | assumption | omega⟩ | exact ⟨by first | assumption | omega, by first | assumption | omega, by first | assumption | omega⟩)]
                  exact hret _ H _ _ _ _ _ (show some (Value.int (Z 8 (chU N v))) = some (Value.int ((chg N Z v w).1)) ∧ wst G T q a (chg N Z v w).2.1 (chg N Z v w).2.2 b tx L cu er le nb nc H from ⟨by rw [hv9], by rw [hv9]; exact wst_sv hsc hP⟩) rfl hS (Nat.le_of_ble_eq_true rfl) (Nat.le_of_ble_eq_true rfl) dL_change_329
              · refine lv_tableIn (off := 238) (tgt := 330) hx hb dL_change_92 (by decide) (by decide) rfl (by decide) ?_
                have hg : chg N Z v w = ch6 N Z v := by unfold chg; rw [hcz]; rfl
                refine lv_iload hx hb dL_change_330 (lv_at hl 7 rfl) ?_
                refine lv_if_le (tgt := 354) hx hb dL_change_332 (by decide) (fun c_16 => ?_) (fun c_16 => ?_)
                · replace c_16 := cn_le (a := (N 2)) (b := 0) (by omega) (by omega) c_16
                  refine lv_iconst (v := 0) hx hb dL_change_354 (by decide) ?_
                  have hv9 : chg N Z v w = (0, N, Z) := by rw [hg]; unfold ch6; rw [if_neg (by first | assumption | omega | exact (fun q9 => by first | omega | exact absurd q9.2 (by assumption) | exact absurd q9.2.1 (by assumption) | exact absurd q9.2.2 (by assumption)))]
                  exact hret _ H _ _ _ _ _ (show some (Value.int 0) = some (Value.int ((chg N Z v w).1)) ∧ wst G T q a (chg N Z v w).2.1 (chg N Z v w).2.2 b tx L cu er le nb nc H from ⟨by rw [hv9], by rw [hv9]; exact wst_id hsc hP⟩) rfl hS (Nat.le_of_ble_eq_true rfl) (Nat.le_of_ble_eq_true rfl) dL_change_355
                · replace c_16 := cn_nle (a := (N 2)) (b := 0) (by omega) (by omega) c_16
                  refine lv_aload_n hx hb dL_change_335 rfl (lv_at hl 2 rfl) ?_
                  refine lv_iload hx hb dL_change_336 (lv_at hl 8 rfl) ?_
                  refine lv_iconst (v := 2) hx hb dL_change_338 (by decide) ?_
                  refine rn_V S hkx hth (nX5_user l hl0 (sa := sa) (h9 := (fun q h => hA q (Nat.le_trans hS.1 h))) (hP := hP) (hwf := hwf) (hu := (chU_lt (by omega))) (hw := (by omega)) (u := (chU N v)) (w := 2)) gL_change_X5_user rfl idX5_user ⟨Nat.le_of_ble_eq_true rfl, Nat.le_of_ble_eq_true rfl⟩ hP 0 rfl rfl rfl rfl hl.1 rfl (Nat.le_of_ble_eq_true rfl) dL_change_339 ⟨Nat.le_of_ble_eq_true rfl, Nat.le_of_ble_eq_true rfl⟩ (fun v9 hv9 => ?_)
                  subst hv9
                  refine W.eq (g2 := F0 m 342 ls [.int (Z 7 (chU N v))]) rfl ?_
                  refine lv_if_lt (tgt := 354) hx hb dL_change_342 (by decide) (fun c_17 => ?_) (fun c_17 => ?_)
                  · have c_17n := Int32.not_le.mpr c_17
                    refine lv_iconst (v := 0) hx hb dL_change_354 (by decide) ?_
                    have hv9 : chg N Z v w = (0, N, Z) := by rw [hg]; unfold ch6; rw [if_neg (by first | assumption | omega | exact (fun q9 => by first | omega | exact absurd q9.2 (by assumption) | exact absurd q9.2.1 (by assumption) | exact absurd q9.2.2 (by assumption)))]
                    exact hret _ H _ _ _ _ _ (show some (Value.int 0) = some (Value.int ((chg N Z v w).1)) ∧ wst G T q a (chg N Z v w).2.1 (chg N Z v w).2.2 b tx L cu er le nb nc H from ⟨by rw [hv9], by rw [hv9]; exact wst_id hsc hP⟩) rfl hS (Nat.le_of_ble_eq_true rfl) (Nat.le_of_ble_eq_true rfl) dL_change_355
                  · have c_17n := Int32.not_lt.mp c_17
                    refine lv_aload_n hx hb dL_change_345 rfl (lv_at hl 2 rfl) ?_
                    refine lv_iload hx hb dL_change_346 (lv_at hl 8 rfl) ?_
                    refine wn_V S hkx hth (nX5_takeBack l hl0 (sa := sa) (A9 := A) (h9 := (fun q h => hA q (Nat.le_trans hS.1 h))) (hP := hP) (hD := hD.weaken (fun _ _ _ _ => trivial)) (hwf := hwf) (hsc := (by omega)) (hu := (chU_lt (by omega))) (hp := (pl_u hwf (chU_lt (by omega)) (by assumption)).1) (u := (chU N v))) gL_change_X5_takeBack rfl idX5_takeBack ⟨Nat.le_of_ble_eq_true rfl, Nat.le_of_ble_eq_true rfl⟩ hP 0 rfl rfl rfl rfl hl.1 rfl (Nat.le_of_ble_eq_true rfl) dL_change_348 ⟨Nat.le_of_ble_eq_true rfl, Nat.le_of_ble_eq_true rfl⟩ hS (fr_in hD (fun q h => hA q (Nat.le_trans hS.1 h))) (fun v9 H locs hp9 hz1 hk1 hS => ?_)
                    obtain ⟨rfl, hP⟩ := hp9
                    have hP : va_P G vwCl (wMain T q a N (uPl Z (chU N v) (-1) (-1)) (svB sc b) (psh sc M N) (psh sc Y Z) (svC sc) tx L cu er le nb nc) H := hP
                    have hD : va_D A (wMain T q a N (uPl Z (chU N v) (-1) (-1)) (svB sc b) (psh sc M N) (psh sc Y Z) (svC sc) tx L cu er le nb nc) := D_perm hD sv_addr
                    have hth := hth0.kept hS.2.1
                    refine W.eq (g2 := F0 m 351 ls [.int (Z 8 (chU N v))]) rfl ?_
                    refine lv_goto (tgt := 355) hx hb dL_change_351 (by decide) ?_
                    have hv9 : chg N Z v w = ((Z 8 (chU N v)), N, (uPl Z (chU N v) (-1) (-1))) := by rw [hg]; unfold ch6; rw [if_pos (by first | assumption | omega | exact ⟨by first | assumption | omega, by first | assumption | omega⟩ | exact ⟨by first | assumption | omega, by first | assumption | omega, by first | assumption | omega⟩)]
                    exact hret _ H _ _ _ _ _ (show some (Value.int (Z 8 (chU N v))) = some (Value.int ((chg N Z v w).1)) ∧ wst G T q a (chg N Z v w).2.1 (chg N Z v w).2.2 b tx L cu er le nb nc H from ⟨by rw [hv9], by rw [hv9]; exact wst_sv hsc hP⟩) rfl hS (Nat.le_of_ble_eq_true rfl) (Nat.le_of_ble_eq_true rfl) dL_change_355
              · refine lv_tableIn (off := 264) (tgt := 356) hx hb dL_change_92 (by decide) (by decide) rfl (by decide) ?_
                have hg : chg N Z v w = ch7 N Z v w := by unfold chg; rw [hcz]; rfl
                refine lv_iload hx hb dL_change_356 (lv_at hl 7 rfl) ?_
                refine lv_if_le (tgt := 401) hx hb dL_change_358 (by decide) (fun c_18 => ?_) (fun c_18 => ?_)
                · replace c_18 := cn_le (a := (N 2)) (b := 0) (by omega) (by omega) c_18
                  refine lv_iconst (v := 0) hx hb dL_change_401 (by decide) ?_
                  have hv9 : chg N Z v w = (0, N, Z) := by rw [hg]; unfold ch7; rw [if_neg (by first | assumption | omega | exact (fun q9 => by first | omega | exact absurd q9.2 (by assumption) | exact absurd q9.2.1 (by assumption) | exact absurd q9.2.2 (by assumption)))]
                  exact hret _ H _ _ _ _ _ (show some (Value.int 0) = some (Value.int ((chg N Z v w).1)) ∧ wst G T q a (chg N Z v w).2.1 (chg N Z v w).2.2 b tx L cu er le nb nc H from ⟨by rw [hv9], by rw [hv9]; exact wst_id hsc hP⟩) rfl hS (Nat.le_of_ble_eq_true rfl) (Nat.le_of_ble_eq_true rfl) dL_change_402
                · replace c_18 := cn_nle (a := (N 2)) (b := 0) (by omega) (by omega) c_18
                  refine lv_aload_n hx hb dL_change_361 rfl (lv_at hl 2 rfl) ?_
                  refine lv_iload hx hb dL_change_362 (lv_at hl 8 rfl) ?_
                  refine lv_iconst (v := 2) hx hb dL_change_364 (by decide) ?_
                  refine rn_V S hkx hth (nX5_user l hl0 (sa := sa) (h9 := (fun q h => hA q (Nat.le_trans hS.1 h))) (hP := hP) (hwf := hwf) (hu := (chU_lt (by omega))) (hw := (by omega)) (u := (chU N v)) (w := 2)) gL_change_X5_user rfl idX5_user ⟨Nat.le_of_ble_eq_true rfl, Nat.le_of_ble_eq_true rfl⟩ hP 0 rfl rfl rfl rfl hl.1 rfl (Nat.le_of_ble_eq_true rfl) dL_change_365 ⟨Nat.le_of_ble_eq_true rfl, Nat.le_of_ble_eq_true rfl⟩ (fun v9 hv9 => ?_)
                  subst hv9
                  refine W.eq (g2 := F0 m 368 ls [.int (Z 7 (chU N v))]) rfl ?_
                  refine lv_if_lt (tgt := 401) hx hb dL_change_368 (by decide) (fun c_19 => ?_) (fun c_19 => ?_)
                  · have c_19n := Int32.not_le.mpr c_19
                    refine lv_iconst (v := 0) hx hb dL_change_401 (by decide) ?_
                    have hv9 : chg N Z v w = (0, N, Z) := by rw [hg]; unfold ch7; rw [if_neg (by first | assumption | omega | exact (fun q9 => by first | omega | exact absurd q9.2 (by assumption) | exact absurd q9.2.1 (by assumption) | exact absurd q9.2.2 (by assumption)))]
                    exact hret _ H _ _ _ _ _ (show some (Value.int 0) = some (Value.int ((chg N Z v w).1)) ∧ wst G T q a (chg N Z v w).2.1 (chg N Z v w).2.2 b tx L cu er le nb nc H from ⟨by rw [hv9], by rw [hv9]; exact wst_id hsc hP⟩) rfl hS (Nat.le_of_ble_eq_true rfl) (Nat.le_of_ble_eq_true rfl) dL_change_402
                  · have c_19n := Int32.not_lt.mp c_19
                    refine lv_aload_n hx hb dL_change_371 rfl (lv_at hl 2 rfl) ?_
                    refine lv_iload hx hb dL_change_372 (lv_at hl 8 rfl) ?_
                    refine lv_iconst (v := 3) hx hb dL_change_374 (by decide) ?_
                    refine rn_V S hkx hth (nX5_user l hl0 (sa := sa) (h9 := (fun q h => hA q (Nat.le_trans hS.1 h))) (hP := hP) (hwf := hwf) (hu := (chU_lt (by omega))) (hw := (by omega)) (u := (chU N v)) (w := 3)) gL_change_X5_user rfl idX5_user ⟨Nat.le_of_ble_eq_true rfl, Nat.le_of_ble_eq_true rfl⟩ hP 0 rfl rfl rfl rfl hl.1 rfl (Nat.le_of_ble_eq_true rfl) dL_change_375 ⟨Nat.le_of_ble_eq_true rfl, Nat.le_of_ble_eq_true rfl⟩ (fun v9 hv9 => ?_)
                    subst hv9
                    refine W.eq (g2 := F0 m 378 ls [.int (Z 8 (chU N v))]) rfl ?_
                    refine lv_sipush (v := 900) hx hb dL_change_378 (by decide) ?_
                    refine lv_icmp_ge (tgt := 401) hx hb dL_change_381 (by decide) (fun c_20 => ?_) (fun c_20 => ?_)
                    · have c_20n := Int32.not_lt.mpr c_20
                      refine lv_iconst (v := 0) hx hb dL_change_401 (by decide) ?_
                      have hv9 : chg N Z v w = (0, N, Z) := by rw [hg]; unfold ch7; rw [if_neg (by first | assumption | omega | exact (fun q9 => by first | omega | exact absurd q9.2 (by assumption) | exact absurd q9.2.1 (by assumption) | exact absurd q9.2.2 (by assumption)))]
                      exact hret _ H _ _ _ _ _ (show some (Value.int 0) = some (Value.int ((chg N Z v w).1)) ∧ wst G T q a (chg N Z v w).2.1 (chg N Z v w).2.2 b tx L cu er le nb nc H from ⟨by rw [hv9], by rw [hv9]; exact wst_id hsc hP⟩) rfl hS (Nat.le_of_ble_eq_true rfl) (Nat.le_of_ble_eq_true rfl) dL_change_402
                    · have c_20n := Int32.not_le.mp c_20
                      refine lv_aload_n hx hb dL_change_384 rfl (lv_at hl 2 rfl) ?_
                      refine lv_iload hx hb dL_change_385 (lv_at hl 8 rfl) ?_
                      refine lv_iconst (v := 1) hx hb dL_change_387 (by decide) ?_
                      refine lv_iload_n hx hb dL_change_388 rfl (lv_at hl 4 rfl) ?_
                      refine lv_bipush (v := 99) hx hb dL_change_389 (by decide) ?_
                      refine ro_S S hkx (mL_low l (v := w) (k := 99) (h0 := (by omega)) (hk := (by omega))) gL_change_L_low rfl idL_low.2 ⟨Nat.le_of_ble_eq_true rfl, Nat.le_of_ble_eq_true rfl⟩ rfl hl.1 rfl (Nat.le_of_ble_eq_true rfl) dL_change_391 ⟨Nat.le_of_ble_eq_true rfl, Nat.le_of_ble_eq_true rfl⟩ (fun r9 hr9 => ?_)
                      subst hr9
                      refine W.eq (g2 := F0 m 394 ls [.int (nI (lowN w 99)), .int 1, .int (nI (chU N v)), .ref (q 0)]) rfl ?_
                      refine lv_iadd hx hb dL_change_394 ?_
                      refine W.eq (g2 := F0 m 395 ls [.int (nI (1 + (lowN w 99))), .int (nI (chU N v)), .ref (q 0)]) (congrArg (fun z9 => F0 m 395 ls (.int z9 :: [.int (nI (chU N v)), .ref (q 0)])) (nI_add 1 _)) ?_
                      refine wn_V S hkx hth (nX5_slip l hl0 (sa := sa) (A9 := A) (h9 := (fun q h => hA q (Nat.le_trans hS.1 h))) (hP := hP) (hD := hD.weaken (fun _ _ _ _ => trivial)) (hwf := hwf) (hsc := (by omega)) (hu := (chU_lt (by omega))) (ht1 := (by omega)) (ht := (by omega)) (hp := (pl_u hwf (chU_lt (by omega)) (by assumption)).1) (h9d := (sl_rng hwf (chU_lt (by omega)) (by assumption) (by assumption) (by omega))) (u := (chU N v)) (t := (1 + (lowN w 99)))) gL_change_X5_slip rfl idX5_slip ⟨Nat.le_of_ble_eq_true rfl, Nat.le_of_ble_eq_true rfl⟩ hP 0 rfl rfl rfl rfl hl.1 rfl (Nat.le_of_ble_eq_true rfl) dL_change_395 ⟨Nat.le_of_ble_eq_true rfl, Nat.le_of_ble_eq_true rfl⟩ hS (fr_in hD (fun q h => hA q (Nat.le_trans hS.1 h))) (fun v9 H locs hp9 hz1 hk1 hS => ?_)
                      obtain ⟨rfl, hP⟩ := hp9
                      have hP : va_P G vwCl (wMain T q a N (uSl Z (chU N v) (nI (1 + (lowN w 99)))) (svB sc b) (psh sc M N) (psh sc Y Z) (svC sc) tx L cu er le nb nc) H := hP
                      have hD : va_D A (wMain T q a N (uSl Z (chU N v) (nI (1 + (lowN w 99)))) (svB sc b) (psh sc M N) (psh sc Y Z) (svC sc) tx L cu er le nb nc) := D_perm hD sv_addr
                      have hth := hth0.kept hS.2.1
                      refine W.eq (g2 := F0 m 398 ls [.int (uSl Z (chU N v) (nI (1 + (lowN w 99))) 8 (chU N v))]) rfl ?_
                      refine lv_goto (tgt := 402) hx hb dL_change_398 (by decide) ?_
                      have hv9 : chg N Z v w = ((uSl Z (chU N v) (nI (1 + (lowN w 99))) 8 (chU N v)), N, (uSl Z (chU N v) (nI (1 + (lowN w 99))))) := by rw [hg]; unfold ch7; rw [if_pos (by first | assumption | omega | exact ⟨by first | assumption | omega, by first | assumption | omega⟩ | exact ⟨by first | assumption | omega, by first | assumption | omega, by first | assumption | omega⟩)]
                      exact hret _ H _ _ _ _ _ (show some (Value.int (uSl Z (chU N v) (nI (1 + (lowN w 99))) 8 (chU N v))) = some (Value.int ((chg N Z v w).1)) ∧ wst G T q a (chg N Z v w).2.1 (chg N Z v w).2.2 b tx L cu er le nb nc H from ⟨by rw [hv9], by rw [hv9]; exact wst_sv hsc hP⟩) rfl hS (Nat.le_of_ble_eq_true rfl) (Nat.le_of_ble_eq_true rfl) dL_change_402
              · refine lv_tableIn (off := 311) (tgt := 403) hx hb dL_change_92 (by decide) (by decide) rfl (by decide) ?_
                have hg : chg N Z v w = ch8 N Z v w := by unfold chg; rw [hcz]; rfl
                refine lv_iload_n hx hb dL_change_403 rfl (lv_at hl 5 rfl) ?_
                refine lv_if_le (tgt := 437) hx hb dL_change_404 (by decide) (fun c_21 => ?_) (fun c_21 => ?_)
                · replace c_21 := cn_le (a := (N 0)) (b := 0) (by omega) (by omega) c_21
                  refine lv_iconst (v := 0) hx hb dL_change_437 (by decide) ?_
                  have hv9 : chg N Z v w = (0, N, Z) := by rw [hg]; unfold ch8; rw [if_neg (by first | assumption | omega | exact (fun q9 => by first | omega | exact absurd q9.2 (by assumption) | exact absurd q9.2.1 (by assumption) | exact absurd q9.2.2 (by assumption)))]
                  exact hret _ H _ _ _ _ _ (show some (Value.int 0) = some (Value.int ((chg N Z v w).1)) ∧ wst G T q a (chg N Z v w).2.1 (chg N Z v w).2.2 b tx L cu er le nb nc H from ⟨by rw [hv9], by rw [hv9]; exact wst_id hsc hP⟩) rfl hS (Nat.le_of_ble_eq_true rfl) (Nat.le_of_ble_eq_true rfl) dL_change_438
                · replace c_21 := cn_nle (a := (N 0)) (b := 0) (by omega) (by omega) c_21
                  refine lv_aload_n hx hb dL_change_407 rfl (lv_at hl 2 rfl) ?_
                  refine lv_iload hx hb dL_change_408 (lv_at hl 9 rfl) ?_
                  refine lv_iconst (v := 1) hx hb dL_change_410 (by decide) ?_
                  refine rn_V S hkx hth (nX5_version l hl0 (sa := sa) (h9 := (fun q h => hA q (Nat.le_trans hS.1 h))) (hP := hP) (hwf := hwf) (hv := (chA_lt (by omega))) (hw := (by omega)) (v := (chA N v)) (w := 1)) gL_change_X5_version rfl idX5_version ⟨Nat.le_of_ble_eq_true rfl, Nat.le_of_ble_eq_true rfl⟩ hP 0 rfl rfl rfl rfl hl.1 rfl (Nat.le_of_ble_eq_true rfl) dL_change_411 ⟨Nat.le_of_ble_eq_true rfl, Nat.le_of_ble_eq_true rfl⟩ (fun v9 hv9 => ?_)
                  subst hv9
                  refine W.eq (g2 := F0 m 414 ls [.int (Z 2 (chA N v))]) rfl ?_
                  refine lv_sipush (v := 900) hx hb dL_change_414 (by decide) ?_
                  refine lv_icmp_ge (tgt := 437) hx hb dL_change_417 (by decide) (fun c_22 => ?_) (fun c_22 => ?_)
                  · have c_22n := Int32.not_lt.mpr c_22
                    refine lv_iconst (v := 0) hx hb dL_change_437 (by decide) ?_
                    have hv9 : chg N Z v w = (0, N, Z) := by rw [hg]; unfold ch8; rw [if_neg (by first | assumption | omega | exact (fun q9 => by first | omega | exact absurd q9.2 (by assumption) | exact absurd q9.2.1 (by assumption) | exact absurd q9.2.2 (by assumption)))]
                    exact hret _ H _ _ _ _ _ (show some (Value.int 0) = some (Value.int ((chg N Z v w).1)) ∧ wst G T q a (chg N Z v w).2.1 (chg N Z v w).2.2 b tx L cu er le nb nc H from ⟨by rw [hv9], by rw [hv9]; exact wst_id hsc hP⟩) rfl hS (Nat.le_of_ble_eq_true rfl) (Nat.le_of_ble_eq_true rfl) dL_change_438
                  · have c_22n := Int32.not_le.mp c_22
                    refine lv_aload_n hx hb dL_change_420 rfl (lv_at hl 2 rfl) ?_
                    refine lv_iload hx hb dL_change_421 (lv_at hl 9 rfl) ?_
                    refine lv_iconst (v := 1) hx hb dL_change_423 (by decide) ?_
                    refine lv_iload_n hx hb dL_change_424 rfl (lv_at hl 4 rfl) ?_
                    refine lv_bipush (v := 99) hx hb dL_change_425 (by decide) ?_
                    refine ro_S S hkx (mL_low l (v := w) (k := 99) (h0 := (by omega)) (hk := (by omega))) gL_change_L_low rfl idL_low.2 ⟨Nat.le_of_ble_eq_true rfl, Nat.le_of_ble_eq_true rfl⟩ rfl hl.1 rfl (Nat.le_of_ble_eq_true rfl) dL_change_427 ⟨Nat.le_of_ble_eq_true rfl, Nat.le_of_ble_eq_true rfl⟩ (fun r9 hr9 => ?_)
                    subst hr9
                    refine W.eq (g2 := F0 m 430 ls [.int (nI (lowN w 99)), .int 1, .int (nI (chA N v)), .ref (q 0)]) rfl ?_
                    refine lv_iadd hx hb dL_change_430 ?_
                    refine W.eq (g2 := F0 m 431 ls [.int (nI (1 + (lowN w 99))), .int (nI (chA N v)), .ref (q 0)]) (congrArg (fun z9 => F0 m 431 ls (.int z9 :: [.int (nI (chA N v)), .ref (q 0)])) (nI_add 1 _)) ?_
                    refine wn_V S hkx hth (nX5_extend l hl0 (sa := sa) (A9 := A) (h9 := (fun q h => hA q (Nat.le_trans hS.1 h))) (hP := hP) (hD := hD.weaken (fun _ _ _ _ => trivial)) (hwf := hwf) (hsc := (by omega)) (hv := (chA_lt (by omega))) (ht1 := (by omega)) (ht := (by omega)) (h9d := (ex_rng hwf (chA_lt (by omega)) (by assumption) (by omega))) (v := (chA N v)) (t := (1 + (lowN w 99)))) gL_change_X5_extend rfl idX5_extend ⟨Nat.le_of_ble_eq_true rfl, Nat.le_of_ble_eq_true rfl⟩ hP 0 rfl rfl rfl rfl hl.1 rfl (Nat.le_of_ble_eq_true rfl) dL_change_431 ⟨Nat.le_of_ble_eq_true rfl, Nat.le_of_ble_eq_true rfl⟩ hS (fr_in hD (fun q h => hA q (Nat.le_trans hS.1 h))) (fun v9 H locs hp9 hz1 hk1 hS => ?_)
                    obtain ⟨rfl, hP⟩ := hp9
                    have hP : va_P G vwCl (wMain T q a N (vExt Z (chA N v) (nI (1 + (lowN w 99)))) (svB sc b) (psh sc M N) (psh sc Y Z) (svC sc) tx L cu er le nb nc) H := hP
                    have hD : va_D A (wMain T q a N (vExt Z (chA N v) (nI (1 + (lowN w 99)))) (svB sc b) (psh sc M N) (psh sc Y Z) (svC sc) tx L cu er le nb nc) := D_perm hD sv_addr
                    have hth := hth0.kept hS.2.1
                    refine W.eq (g2 := F0 m 434 ls [.int (vExt Z (chA N v) (nI (1 + (lowN w 99))) 2 (chA N v))]) rfl ?_
                    refine lv_goto (tgt := 438) hx hb dL_change_434 (by decide) ?_
                    have hv9 : chg N Z v w = ((vExt Z (chA N v) (nI (1 + (lowN w 99))) 2 (chA N v)), N, (vExt Z (chA N v) (nI (1 + (lowN w 99))))) := by rw [hg]; unfold ch8; rw [if_pos (by first | assumption | omega | exact ⟨by first | assumption | omega, by first | assumption | omega⟩ | exact ⟨by first | assumption | omega, by first | assumption | omega, by first | assumption | omega⟩)]
                    exact hret _ H _ _ _ _ _ (show some (Value.int (vExt Z (chA N v) (nI (1 + (lowN w 99))) 2 (chA N v))) = some (Value.int ((chg N Z v w).1)) ∧ wst G T q a (chg N Z v w).2.1 (chg N Z v w).2.2 b tx L cu er le nb nc H from ⟨by rw [hv9], by rw [hv9]; exact wst_sv hsc hP⟩) rfl hS (Nat.le_of_ble_eq_true rfl) (Nat.le_of_ble_eq_true rfl) dL_change_438
              · refine lv_tableIn (off := 347) (tgt := 439) hx hb dL_change_92 (by decide) (by decide) rfl (by decide) ?_
                have hg : chg N Z v w = ch9 N Z v w := by unfold chg; rw [hcz]; rfl
                refine lv_iload_n hx hb dL_change_439 rfl (lv_at hl 4 rfl) ?_
                refine lv_sipush (v := 600) hx hb dL_change_440 (by decide) ?_
                refine ro_S S hkx (mL_low l (v := w) (k := 600) (h0 := (by omega)) (hk := (by omega))) gL_change_L_low rfl idL_low.2 ⟨Nat.le_of_ble_eq_true rfl, Nat.le_of_ble_eq_true rfl⟩ rfl hl.1 rfl (Nat.le_of_ble_eq_true rfl) dL_change_443 ⟨Nat.le_of_ble_eq_true rfl, Nat.le_of_ble_eq_true rfl⟩ (fun r9 hr9 => ?_)
                subst hr9
                refine W.eq (g2 := F0 m 446 ls [.int (nI (lowN w 600))]) rfl ?_
                refine lv_istore (lv' := [(10, .int (nI (lowN w 600))), (9, .int (nI (lowN w 200))), (8, .int (nI (chF N v))), (0, .ref (q 0)), (1, .int v), (2, .int w), (3, .int (nI (N 0))), (4, .int (nI (N 1))), (5, .int (nI (N 2))), (6, .int (nI (chU N v))), (7, .int (nI (chA N v)))]) hx hb dL_change_446 hl (by decide) rfl (fun ls hl => ?_)
                refine lv_iload_n hx hb dL_change_448 rfl (lv_at hl 6 rfl) ?_
                refine lv_if_le (tgt := 506) hx hb dL_change_449 (by decide) (fun c_23 => ?_) (fun c_23 => ?_)
                · replace c_23 := cn_le (a := (N 0)) (b := 0) (by omega) (by omega) c_23
                  refine lv_iconst (v := 0) hx hb dL_change_506 (by decide) ?_
                  have hv9 : chg N Z v w = (0, N, Z) := by rw [hg]; unfold ch9; rw [if_neg (by first | assumption | omega | exact (fun q9 => by first | omega | exact absurd q9.2 (by assumption) | exact absurd q9.2.1 (by assumption) | exact absurd q9.2.2 (by assumption)))]
                  exact hret _ H _ _ _ _ _ (show some (Value.int 0) = some (Value.int ((chg N Z v w).1)) ∧ wst G T q a (chg N Z v w).2.1 (chg N Z v w).2.2 b tx L cu er le nb nc H from ⟨by rw [hv9], by rw [hv9]; exact wst_id hsc hP⟩) rfl hS (Nat.le_of_ble_eq_true rfl) (Nat.le_of_ble_eq_true rfl) dL_change_507
                · replace c_23 := cn_nle (a := (N 0)) (b := 0) (by omega) (by omega) c_23
                  refine lv_iload hx hb dL_change_452 (lv_at hl 7 rfl) ?_
                  refine lv_if_le (tgt := 506) hx hb dL_change_454 (by decide) (fun c_24 => ?_) (fun c_24 => ?_)
                  · replace c_24 := cn_le (a := (N 1)) (b := 0) (by omega) (by omega) c_24
                    refine lv_iconst (v := 0) hx hb dL_change_506 (by decide) ?_
                    have hv9 : chg N Z v w = (0, N, Z) := by rw [hg]; unfold ch9; rw [if_neg (by first | assumption | omega | exact (fun q9 => by first | omega | exact absurd q9.2 (by assumption) | exact absurd q9.2.1 (by assumption) | exact absurd q9.2.2 (by assumption)))]
                    exact hret _ H _ _ _ _ _ (show some (Value.int 0) = some (Value.int ((chg N Z v w).1)) ∧ wst G T q a (chg N Z v w).2.1 (chg N Z v w).2.2 b tx L cu er le nb nc H from ⟨by rw [hv9], by rw [hv9]; exact wst_id hsc hP⟩) rfl hS (Nat.le_of_ble_eq_true rfl) (Nat.le_of_ble_eq_true rfl) dL_change_507
                  · replace c_24 := cn_nle (a := (N 1)) (b := 0) (by omega) (by omega) c_24
                    refine lv_aload_n hx hb dL_change_457 rfl (lv_at hl 3 rfl) ?_
                    refine lv_iconst (v := 3) hx hb dL_change_458 (by decide) ?_
                    refine rn_V S hkx hth (nX5_value l hl0 (sa := sa) (h9 := (fun q h => hA q (Nat.le_trans hS.1 h))) (hP := hP) (hwf := hwf) (hw := (by omega)) (w := 3)) gL_change_X5_value rfl idX5_value ⟨Nat.le_of_ble_eq_true rfl, Nat.le_of_ble_eq_true rfl⟩ hP 0 rfl rfl rfl rfl hl.1 rfl (Nat.le_of_ble_eq_true rfl) dL_change_459 ⟨Nat.le_of_ble_eq_true rfl, Nat.le_of_ble_eq_true rfl⟩ (fun v9 hv9 => ?_)
                    subst hv9
                    refine W.eq (g2 := F0 m 462 ls [.int (nI (N 3))]) rfl ?_
                    refine lv_bipush (v := 6) hx hb dL_change_462 (by decide) ?_
                    refine lv_icmp_ge (tgt := 506) hx hb dL_change_464 (by decide) (fun c_25 => ?_) (fun c_25 => ?_)
                    · replace c_25 := cn_le (a := 6) (b := (N 3)) (by omega) (by omega) c_25
                      refine lv_iconst (v := 0) hx hb dL_change_506 (by decide) ?_
                      have hv9 : chg N Z v w = (0, N, Z) := by rw [hg]; unfold ch9; rw [if_neg (by first | assumption | omega | exact (fun q9 => by first | omega | exact absurd q9.2 (by assumption) | exact absurd q9.2.1 (by assumption) | exact absurd q9.2.2 (by assumption)))]
                      exact hret _ H _ _ _ _ _ (show some (Value.int 0) = some (Value.int ((chg N Z v w).1)) ∧ wst G T q a (chg N Z v w).2.1 (chg N Z v w).2.2 b tx L cu er le nb nc H from ⟨by rw [hv9], by rw [hv9]; exact wst_id hsc hP⟩) rfl hS (Nat.le_of_ble_eq_true rfl) (Nat.le_of_ble_eq_true rfl) dL_change_507
                    · replace c_25 := cn_nle (a := 6) (b := (N 3)) (by omega) (by omega) c_25
                      refine lv_aload_n hx hb dL_change_467 rfl (lv_at hl 3 rfl) ?_
                      refine lv_iload hx hb dL_change_468 (lv_at hl 2 rfl) ?_
                      refine lv_iload hx hb dL_change_470 (lv_at hl 10 rfl) ?_
                      refine lv_iload hx hb dL_change_472 (lv_at hl 0 rfl) ?_
                      refine lv_iload hx hb dL_change_474 (lv_at hl 0 rfl) ?_
                      refine lv_iload_n hx hb dL_change_476 rfl (lv_at hl 5 rfl) ?_
                      refine lv_bipush (v := 10) hx hb dL_change_477 (by decide) ?_
                      refine lv_ishr hx hb dL_change_479 ?_
                      refine lv_sipush (v := 1000) hx hb dL_change_480 (by decide) ?_
                      refine lv_iload hx hb dL_change_483 (lv_at hl 0 rfl) ?_
                      refine lv_isub hx hb dL_change_485 ?_
                      refine W.eq (g2 := F0 m 486 ls [.int (nI (1000 - (lowN w 600))), .int (w >>> (10 &&& 31)), .int (nI (lowN w 600)), .int (nI (lowN w 600)), .int (nI (chA N v)), .int (nI (chF N v)), .ref (q 0)]) (congrArg (fun z9 => F0 m 486 ls (.int z9 :: [.int (w >>> (10 &&& 31)), .int (nI (lowN w 600)), .int (nI (lowN w 600)), .int (nI (chA N v)), .int (nI (chF N v)), .ref (q 0)])) (pk_sub (a := 1000) (b := (lowN w 600)) (by omega))) ?_
                      refine ro_S S hkx (mL_low l (v := (w >>> (10 &&& 31))) (k := (1000 - (lowN w 600))) (h0 := (by omega)) (hk := (by omega))) gL_change_L_low rfl idL_low.2 ⟨Nat.le_of_ble_eq_true rfl, Nat.le_of_ble_eq_true rfl⟩ rfl hl.1 rfl (Nat.le_of_ble_eq_true rfl) dL_change_486 ⟨Nat.le_of_ble_eq_true rfl, Nat.le_of_ble_eq_true rfl⟩ (fun r9 hr9 => ?_)
                      subst hr9
                      refine W.eq (g2 := F0 m 489 ls [.int (nI (lowN (w >>> (10 &&& 31)) (1000 - (lowN w 600)))), .int (nI (lowN w 600)), .int (nI (lowN w 600)), .int (nI (chA N v)), .int (nI (chF N v)), .ref (q 0)]) rfl ?_
                      refine lv_iadd hx hb dL_change_489 ?_
                      refine W.eq (g2 := F0 m 490 ls [.int (nI ((lowN w 600) + (lowN (w >>> (10 &&& 31)) (1000 - (lowN w 600))))), .int (nI (lowN w 600)), .int (nI (chA N v)), .int (nI (chF N v)), .ref (q 0)]) (congrArg (fun z9 => F0 m 490 ls (.int z9 :: [.int (nI (lowN w 600)), .int (nI (chA N v)), .int (nI (chF N v)), .ref (q 0)])) (nI_add _ _)) ?_
                      refine lv_iconst (v := 1) hx hb dL_change_490 (by decide) ?_
                      refine lv_iload_n hx hb dL_change_491 rfl (lv_at hl 5 rfl) ?_
                      refine lv_iconst (v := 4) hx hb dL_change_492 (by decide) ?_
                      refine lv_ishr hx hb dL_change_493 ?_
                      refine lv_bipush (v := 99) hx hb dL_change_494 (by decide) ?_
                      refine ro_S S hkx (mL_low l (v := (w >>> (4 &&& 31))) (k := 99) (h0 := (by omega)) (hk := (by omega))) gL_change_L_low rfl idL_low.2 ⟨Nat.le_of_ble_eq_true rfl, Nat.le_of_ble_eq_true rfl⟩ rfl hl.1 rfl (Nat.le_of_ble_eq_true rfl) dL_change_496 ⟨Nat.le_of_ble_eq_true rfl, Nat.le_of_ble_eq_true rfl⟩ (fun r9 hr9 => ?_)
                      subst hr9
                      refine W.eq (g2 := F0 m 499 ls [.int (nI (lowN (w >>> (4 &&& 31)) 99)), .int 1, .int (nI ((lowN w 600) + (lowN (w >>> (10 &&& 31)) (1000 - (lowN w 600))))), .int (nI (lowN w 600)), .int (nI (chA N v)), .int (nI (chF N v)), .ref (q 0)]) rfl ?_
                      refine lv_iadd hx hb dL_change_499 ?_
                      refine W.eq (g2 := F0 m 500 ls [.int (nI (1 + (lowN (w >>> (4 &&& 31)) 99))), .int (nI ((lowN w 600) + (lowN (w >>> (10 &&& 31)) (1000 - (lowN w 600))))), .int (nI (lowN w 600)), .int (nI (chA N v)), .int (nI (chF N v)), .ref (q 0)]) (congrArg (fun z9 => F0 m 500 ls (.int z9 :: [.int (nI ((lowN w 600) + (lowN (w >>> (10 &&& 31)) (1000 - (lowN w 600))))), .int (nI (lowN w 600)), .int (nI (chA N v)), .int (nI (chF N v)), .ref (q 0)])) (nI_add 1 _)) ?_
                      refine wn_V S hkx hth (nX5_addShim l hl0 (sa := sa) (A9 := A) (h9 := (fun q h => hA q (Nat.le_trans hS.1 h))) (hP := hP) (hD := hD.weaken (fun _ _ _ _ => trivial)) (hwf := hwf) (hsc := (by omega)) (hf := (chF_lt (by omega))) (hv := (chA_lt (by omega))) (hx := (by omega)) (hz := (by omega)) (hy1 := (by omega)) (hy := (by omega)) (h8 := (by omega)) (f := (chF N v)) (v := (chA N v)) (x := (lowN w 600)) (z := ((lowN w 600) + (lowN (w >>> (10 &&& 31)) (1000 - (lowN w 600))))) (y := (1 + (lowN (w >>> (4 &&& 31)) 99)))) gL_change_X5_addShim rfl idX5_addShim ⟨Nat.le_of_ble_eq_true rfl, Nat.le_of_ble_eq_true rfl⟩ hP 0 rfl rfl rfl rfl hl.1 rfl (Nat.le_of_ble_eq_true rfl) dL_change_500 ⟨Nat.le_of_ble_eq_true rfl, Nat.le_of_ble_eq_true rfl⟩ hS (fr_in hD (fun q h => hA q (Nat.le_trans hS.1 h))) (fun v9 H locs hp9 hz1 hk1 hS => ?_)
                      obtain ⟨rfl, hP⟩ := hp9
                      have hP : va_P G vwCl (wMain T q a (va_up N 3 (N 3 + 1)) (sAdd N Z (nI (chF N v)) (nI (chA N v)) (nI (lowN w 600)) (nI ((lowN w 600) + (lowN (w >>> (10 &&& 31)) (1000 - (lowN w 600))))) (nI (1 + (lowN (w >>> (4 &&& 31)) 99)))) (svB sc b) (psh sc M N) (psh sc Y Z) (svC sc) tx L cu er le nb nc) H := hP
                      have hD : va_D A (wMain T q a (va_up N 3 (N 3 + 1)) (sAdd N Z (nI (chF N v)) (nI (chA N v)) (nI (lowN w 600)) (nI ((lowN w 600) + (lowN (w >>> (10 &&& 31)) (1000 - (lowN w 600))))) (nI (1 + (lowN (w >>> (4 &&& 31)) 99)))) (svB sc b) (psh sc M N) (psh sc Y Z) (svC sc) tx L cu er le nb nc) := D_perm hD sv_addr
                      have hth := hth0.kept hS.2.1
                      refine W.eq (g2 := F0 m 503 ls [.int (nI (N 3))]) rfl ?_
                      refine lv_goto (tgt := 507) hx hb dL_change_503 (by decide) ?_
                      have hv9 : chg N Z v w = ((nI (N 3)), (va_up N 3 (N 3 + 1)), (sAdd N Z (nI (chF N v)) (nI (chA N v)) (nI (lowN w 600)) (nI ((lowN w 600) + (lowN (w >>> (10 &&& 31)) (1000 - (lowN w 600))))) (nI (1 + (lowN (w >>> (4 &&& 31)) 99))))) := by rw [hg]; unfold ch9; rw [if_pos (by first | assumption | omega | exact ⟨by first | assumption | omega, by first | assumption | omega⟩ | exact ⟨by first | assumption | omega, by first | assumption | omega, by first | assumption | omega⟩)]
                      exact hret _ H _ _ _ _ _ (show some (Value.int (nI (N 3))) = some (Value.int ((chg N Z v w).1)) ∧ wst G T q a (chg N Z v w).2.1 (chg N Z v w).2.2 b tx L cu er le nb nc H from ⟨by rw [hv9], by rw [hv9]; exact wst_sv hsc hP⟩) rfl hS (Nat.le_of_ble_eq_true rfl) (Nat.le_of_ble_eq_true rfl) dL_change_507
              · refine lv_tableIn (off := 347) (tgt := 439) hx hb dL_change_92 (by decide) (by decide) rfl (by decide) ?_
                have hg : chg N Z v w = ch9 N Z v w := by unfold chg; rw [hcz]; rfl
                refine lv_iload_n hx hb dL_change_439 rfl (lv_at hl 4 rfl) ?_
                refine lv_sipush (v := 600) hx hb dL_change_440 (by decide) ?_
                refine ro_S S hkx (mL_low l (v := w) (k := 600) (h0 := (by omega)) (hk := (by omega))) gL_change_L_low rfl idL_low.2 ⟨Nat.le_of_ble_eq_true rfl, Nat.le_of_ble_eq_true rfl⟩ rfl hl.1 rfl (Nat.le_of_ble_eq_true rfl) dL_change_443 ⟨Nat.le_of_ble_eq_true rfl, Nat.le_of_ble_eq_true rfl⟩ (fun r9 hr9 => ?_)
                subst hr9
                refine W.eq (g2 := F0 m 446 ls [.int (nI (lowN w 600))]) rfl ?_
                refine lv_istore (lv' := [(10, .int (nI (lowN w 600))), (9, .int (nI (lowN w 200))), (8, .int (nI (chF N v))), (0, .ref (q 0)), (1, .int v), (2, .int w), (3, .int (nI (N 0))), (4, .int (nI (N 1))), (5, .int (nI (N 2))), (6, .int (nI (chU N v))), (7, .int (nI (chA N v)))]) hx hb dL_change_446 hl (by decide) rfl (fun ls hl => ?_)
                refine lv_iload_n hx hb dL_change_448 rfl (lv_at hl 6 rfl) ?_
                refine lv_if_le (tgt := 506) hx hb dL_change_449 (by decide) (fun c_26 => ?_) (fun c_26 => ?_)
                · replace c_26 := cn_le (a := (N 0)) (b := 0) (by omega) (by omega) c_26
                  refine lv_iconst (v := 0) hx hb dL_change_506 (by decide) ?_
                  have hv9 : chg N Z v w = (0, N, Z) := by rw [hg]; unfold ch9; rw [if_neg (by first | assumption | omega | exact (fun q9 => by first | omega | exact absurd q9.2 (by assumption) | exact absurd q9.2.1 (by assumption) | exact absurd q9.2.2 (by assumption)))]
                  exact hret _ H _ _ _ _ _ (show some (Value.int 0) = some (Value.int ((chg N Z v w).1)) ∧ wst G T q a (chg N Z v w).2.1 (chg N Z v w).2.2 b tx L cu er le nb nc H from ⟨by rw [hv9], by rw [hv9]; exact wst_id hsc hP⟩) rfl hS (Nat.le_of_ble_eq_true rfl) (Nat.le_of_ble_eq_true rfl) dL_change_507
                · replace c_26 := cn_nle (a := (N 0)) (b := 0) (by omega) (by omega) c_26
                  refine lv_iload hx hb dL_change_452 (lv_at hl 7 rfl) ?_
                  refine lv_if_le (tgt := 506) hx hb dL_change_454 (by decide) (fun c_27 => ?_) (fun c_27 => ?_)
                  · replace c_27 := cn_le (a := (N 1)) (b := 0) (by omega) (by omega) c_27
                    refine lv_iconst (v := 0) hx hb dL_change_506 (by decide) ?_
                    have hv9 : chg N Z v w = (0, N, Z) := by rw [hg]; unfold ch9; rw [if_neg (by first | assumption | omega | exact (fun q9 => by first | omega | exact absurd q9.2 (by assumption) | exact absurd q9.2.1 (by assumption) | exact absurd q9.2.2 (by assumption)))]
                    exact hret _ H _ _ _ _ _ (show some (Value.int 0) = some (Value.int ((chg N Z v w).1)) ∧ wst G T q a (chg N Z v w).2.1 (chg N Z v w).2.2 b tx L cu er le nb nc H from ⟨by rw [hv9], by rw [hv9]; exact wst_id hsc hP⟩) rfl hS (Nat.le_of_ble_eq_true rfl) (Nat.le_of_ble_eq_true rfl) dL_change_507
                  · replace c_27 := cn_nle (a := (N 1)) (b := 0) (by omega) (by omega) c_27
                    refine lv_aload_n hx hb dL_change_457 rfl (lv_at hl 3 rfl) ?_
                    refine lv_iconst (v := 3) hx hb dL_change_458 (by decide) ?_
                    refine rn_V S hkx hth (nX5_value l hl0 (sa := sa) (h9 := (fun q h => hA q (Nat.le_trans hS.1 h))) (hP := hP) (hwf := hwf) (hw := (by omega)) (w := 3)) gL_change_X5_value rfl idX5_value ⟨Nat.le_of_ble_eq_true rfl, Nat.le_of_ble_eq_true rfl⟩ hP 0 rfl rfl rfl rfl hl.1 rfl (Nat.le_of_ble_eq_true rfl) dL_change_459 ⟨Nat.le_of_ble_eq_true rfl, Nat.le_of_ble_eq_true rfl⟩ (fun v9 hv9 => ?_)
                    subst hv9
                    refine W.eq (g2 := F0 m 462 ls [.int (nI (N 3))]) rfl ?_
                    refine lv_bipush (v := 6) hx hb dL_change_462 (by decide) ?_
                    refine lv_icmp_ge (tgt := 506) hx hb dL_change_464 (by decide) (fun c_28 => ?_) (fun c_28 => ?_)
                    · replace c_28 := cn_le (a := 6) (b := (N 3)) (by omega) (by omega) c_28
                      refine lv_iconst (v := 0) hx hb dL_change_506 (by decide) ?_
                      have hv9 : chg N Z v w = (0, N, Z) := by rw [hg]; unfold ch9; rw [if_neg (by first | assumption | omega | exact (fun q9 => by first | omega | exact absurd q9.2 (by assumption) | exact absurd q9.2.1 (by assumption) | exact absurd q9.2.2 (by assumption)))]
                      exact hret _ H _ _ _ _ _ (show some (Value.int 0) = some (Value.int ((chg N Z v w).1)) ∧ wst G T q a (chg N Z v w).2.1 (chg N Z v w).2.2 b tx L cu er le nb nc H from ⟨by rw [hv9], by rw [hv9]; exact wst_id hsc hP⟩) rfl hS (Nat.le_of_ble_eq_true rfl) (Nat.le_of_ble_eq_true rfl) dL_change_507
                    · replace c_28 := cn_nle (a := 6) (b := (N 3)) (by omega) (by omega) c_28
                      refine lv_aload_n hx hb dL_change_467 rfl (lv_at hl 3 rfl) ?_
                      refine lv_iload hx hb dL_change_468 (lv_at hl 2 rfl) ?_
                      refine lv_iload hx hb dL_change_470 (lv_at hl 10 rfl) ?_
                      refine lv_iload hx hb dL_change_472 (lv_at hl 0 rfl) ?_
                      refine lv_iload hx hb dL_change_474 (lv_at hl 0 rfl) ?_
                      refine lv_iload_n hx hb dL_change_476 rfl (lv_at hl 5 rfl) ?_
                      refine lv_bipush (v := 10) hx hb dL_change_477 (by decide) ?_
                      refine lv_ishr hx hb dL_change_479 ?_
                      refine lv_sipush (v := 1000) hx hb dL_change_480 (by decide) ?_
                      refine lv_iload hx hb dL_change_483 (lv_at hl 0 rfl) ?_
                      refine lv_isub hx hb dL_change_485 ?_
                      refine W.eq (g2 := F0 m 486 ls [.int (nI (1000 - (lowN w 600))), .int (w >>> (10 &&& 31)), .int (nI (lowN w 600)), .int (nI (lowN w 600)), .int (nI (chA N v)), .int (nI (chF N v)), .ref (q 0)]) (congrArg (fun z9 => F0 m 486 ls (.int z9 :: [.int (w >>> (10 &&& 31)), .int (nI (lowN w 600)), .int (nI (lowN w 600)), .int (nI (chA N v)), .int (nI (chF N v)), .ref (q 0)])) (pk_sub (a := 1000) (b := (lowN w 600)) (by omega))) ?_
                      refine ro_S S hkx (mL_low l (v := (w >>> (10 &&& 31))) (k := (1000 - (lowN w 600))) (h0 := (by omega)) (hk := (by omega))) gL_change_L_low rfl idL_low.2 ⟨Nat.le_of_ble_eq_true rfl, Nat.le_of_ble_eq_true rfl⟩ rfl hl.1 rfl (Nat.le_of_ble_eq_true rfl) dL_change_486 ⟨Nat.le_of_ble_eq_true rfl, Nat.le_of_ble_eq_true rfl⟩ (fun r9 hr9 => ?_)
                      subst hr9
                      refine W.eq (g2 := F0 m 489 ls [.int (nI (lowN (w >>> (10 &&& 31)) (1000 - (lowN w 600)))), .int (nI (lowN w 600)), .int (nI (lowN w 600)), .int (nI (chA N v)), .int (nI (chF N v)), .ref (q 0)]) rfl ?_
                      refine lv_iadd hx hb dL_change_489 ?_
                      refine W.eq (g2 := F0 m 490 ls [.int (nI ((lowN w 600) + (lowN (w >>> (10 &&& 31)) (1000 - (lowN w 600))))), .int (nI (lowN w 600)), .int (nI (chA N v)), .int (nI (chF N v)), .ref (q 0)]) (congrArg (fun z9 => F0 m 490 ls (.int z9 :: [.int (nI (lowN w 600)), .int (nI (chA N v)), .int (nI (chF N v)), .ref (q 0)])) (nI_add _ _)) ?_
                      refine lv_iconst (v := 1) hx hb dL_change_490 (by decide) ?_
                      refine lv_iload_n hx hb dL_change_491 rfl (lv_at hl 5 rfl) ?_
                      refine lv_iconst (v := 4) hx hb dL_change_492 (by decide) ?_
                      refine lv_ishr hx hb dL_change_493 ?_
                      refine lv_bipush (v := 99) hx hb dL_change_494 (by decide) ?_
                      refine ro_S S hkx (mL_low l (v := (w >>> (4 &&& 31))) (k := 99) (h0 := (by omega)) (hk := (by omega))) gL_change_L_low rfl idL_low.2 ⟨Nat.le_of_ble_eq_true rfl, Nat.le_of_ble_eq_true rfl⟩ rfl hl.1 rfl (Nat.le_of_ble_eq_true rfl) dL_change_496 ⟨Nat.le_of_ble_eq_true rfl, Nat.le_of_ble_eq_true rfl⟩ (fun r9 hr9 => ?_)
                      subst hr9
                      refine W.eq (g2 := F0 m 499 ls [.int (nI (lowN (w >>> (4 &&& 31)) 99)), .int 1, .int (nI ((lowN w 600) + (lowN (w >>> (10 &&& 31)) (1000 - (lowN w 600))))), .int (nI (lowN w 600)), .int (nI (chA N v)), .int (nI (chF N v)), .ref (q 0)]) rfl ?_
                      refine lv_iadd hx hb dL_change_499 ?_
                      refine W.eq (g2 := F0 m 500 ls [.int (nI (1 + (lowN (w >>> (4 &&& 31)) 99))), .int (nI ((lowN w 600) + (lowN (w >>> (10 &&& 31)) (1000 - (lowN w 600))))), .int (nI (lowN w 600)), .int (nI (chA N v)), .int (nI (chF N v)), .ref (q 0)]) (congrArg (fun z9 => F0 m 500 ls (.int z9 :: [.int (nI ((lowN w 600) + (lowN (w >>> (10 &&& 31)) (1000 - (lowN w 600))))), .int (nI (lowN w 600)), .int (nI (chA N v)), .int (nI (chF N v)), .ref (q 0)])) (nI_add 1 _)) ?_
                      refine wn_V S hkx hth (nX5_addShim l hl0 (sa := sa) (A9 := A) (h9 := (fun q h => hA q (Nat.le_trans hS.1 h))) (hP := hP) (hD := hD.weaken (fun _ _ _ _ => trivial)) (hwf := hwf) (hsc := (by omega)) (hf := (chF_lt (by omega))) (hv := (chA_lt (by omega))) (hx := (by omega)) (hz := (by omega)) (hy1 := (by omega)) (hy := (by omega)) (h8 := (by omega)) (f := (chF N v)) (v := (chA N v)) (x := (lowN w 600)) (z := ((lowN w 600) + (lowN (w >>> (10 &&& 31)) (1000 - (lowN w 600))))) (y := (1 + (lowN (w >>> (4 &&& 31)) 99)))) gL_change_X5_addShim rfl idX5_addShim ⟨Nat.le_of_ble_eq_true rfl, Nat.le_of_ble_eq_true rfl⟩ hP 0 rfl rfl rfl rfl hl.1 rfl (Nat.le_of_ble_eq_true rfl) dL_change_500 ⟨Nat.le_of_ble_eq_true rfl, Nat.le_of_ble_eq_true rfl⟩ hS (fr_in hD (fun q h => hA q (Nat.le_trans hS.1 h))) (fun v9 H locs hp9 hz1 hk1 hS => ?_)
                      obtain ⟨rfl, hP⟩ := hp9
                      have hP : va_P G vwCl (wMain T q a (va_up N 3 (N 3 + 1)) (sAdd N Z (nI (chF N v)) (nI (chA N v)) (nI (lowN w 600)) (nI ((lowN w 600) + (lowN (w >>> (10 &&& 31)) (1000 - (lowN w 600))))) (nI (1 + (lowN (w >>> (4 &&& 31)) 99)))) (svB sc b) (psh sc M N) (psh sc Y Z) (svC sc) tx L cu er le nb nc) H := hP
                      have hD : va_D A (wMain T q a (va_up N 3 (N 3 + 1)) (sAdd N Z (nI (chF N v)) (nI (chA N v)) (nI (lowN w 600)) (nI ((lowN w 600) + (lowN (w >>> (10 &&& 31)) (1000 - (lowN w 600))))) (nI (1 + (lowN (w >>> (4 &&& 31)) 99)))) (svB sc b) (psh sc M N) (psh sc Y Z) (svC sc) tx L cu er le nb nc) := D_perm hD sv_addr
                      have hth := hth0.kept hS.2.1
                      refine W.eq (g2 := F0 m 503 ls [.int (nI (N 3))]) rfl ?_
                      refine lv_goto (tgt := 507) hx hb dL_change_503 (by decide) ?_
                      have hv9 : chg N Z v w = ((nI (N 3)), (va_up N 3 (N 3 + 1)), (sAdd N Z (nI (chF N v)) (nI (chA N v)) (nI (lowN w 600)) (nI ((lowN w 600) + (lowN (w >>> (10 &&& 31)) (1000 - (lowN w 600))))) (nI (1 + (lowN (w >>> (4 &&& 31)) 99))))) := by rw [hg]; unfold ch9; rw [if_pos (by first | assumption | omega | exact ⟨by first | assumption | omega, by first | assumption | omega⟩ | exact ⟨by first | assumption | omega, by first | assumption | omega, by first | assumption | omega⟩)]
                      exact hret _ H _ _ _ _ _ (show some (Value.int (nI (N 3))) = some (Value.int ((chg N Z v w).1)) ∧ wst G T q a (chg N Z v w).2.1 (chg N Z v w).2.2 b tx L cu er le nb nc H from ⟨by rw [hv9], by rw [hv9]; exact wst_sv hsc hP⟩) rfl hS (Nat.le_of_ble_eq_true rfl) (Nat.le_of_ble_eq_true rfl) dL_change_507
              · refine lv_tableOut (tgt := 508) hx hb dL_change_92 (Or.inr (by decide)) (by decide) ?_
                have hg : chg N Z v w = chB N Z w := by unfold chg; rw [hcz]; rfl
                refine lv_aload_n hx hb dL_change_508 rfl (lv_at hl 2 rfl) ?_
                refine lv_iconst (v := 3) hx hb dL_change_509 (by decide) ?_
                refine rn_V S hkx hth (nX5_value l hl0 (sa := sa) (h9 := (fun q h => hA q (Nat.le_trans hS.1 h))) (hP := hP) (hwf := hwf) (hw := (by omega)) (w := 3)) gL_change_X5_value rfl idX5_value ⟨Nat.le_of_ble_eq_true rfl, Nat.le_of_ble_eq_true rfl⟩ hP 0 rfl rfl rfl rfl hl.1 rfl (Nat.le_of_ble_eq_true rfl) dL_change_510 ⟨Nat.le_of_ble_eq_true rfl, Nat.le_of_ble_eq_true rfl⟩ (fun v9 hv9 => ?_)
                subst hv9
                refine W.eq (g2 := F0 m 513 ls [.int (nI (N 3))]) rfl ?_
                refine lv_if_le (tgt := 532) hx hb dL_change_513 (by decide) (fun c_29 => ?_) (fun c_29 => ?_)
                · replace c_29 := cn_le (a := (N 3)) (b := 0) (by omega) (by omega) c_29
                  refine lv_iconst (v := 0) hx hb dL_change_532 (by decide) ?_
                  have hv9 : chg N Z v w = (0, N, Z) := by rw [hg]; unfold chB; rw [if_neg (by first | assumption | omega | exact (fun q9 => by first | omega | exact absurd q9.2 (by assumption) | exact absurd q9.2.1 (by assumption) | exact absurd q9.2.2 (by assumption)))]
                  exact hret _ H _ _ _ _ _ (show some (Value.int 0) = some (Value.int ((chg N Z v w).1)) ∧ wst G T q a (chg N Z v w).2.1 (chg N Z v w).2.2 b tx L cu er le nb nc H from ⟨by rw [hv9], by rw [hv9]; exact wst_id hsc hP⟩) rfl hS (Nat.le_of_ble_eq_true rfl) (Nat.le_of_ble_eq_true rfl) dL_change_533
                · replace c_29 := cn_nle (a := (N 3)) (b := 0) (by omega) (by omega) c_29
                  refine lv_aload_n hx hb dL_change_516 rfl (lv_at hl 2 rfl) ?_
                  refine lv_iload_n hx hb dL_change_517 rfl (lv_at hl 4 rfl) ?_
                  refine lv_aload_n hx hb dL_change_518 rfl (lv_at hl 2 rfl) ?_
                  refine lv_iconst (v := 3) hx hb dL_change_519 (by decide) ?_
                  refine rn_V S hkx hth (nX5_value l hl0 (sa := sa) (h9 := (fun q h => hA q (Nat.le_trans hS.1 h))) (hP := hP) (hwf := hwf) (hw := (by omega)) (w := 3)) gL_change_X5_value rfl idX5_value ⟨Nat.le_of_ble_eq_true rfl, Nat.le_of_ble_eq_true rfl⟩ hP 0 rfl rfl rfl rfl hl.1 rfl (Nat.le_of_ble_eq_true rfl) dL_change_520 ⟨Nat.le_of_ble_eq_true rfl, Nat.le_of_ble_eq_true rfl⟩ (fun v9 hv9 => ?_)
                  subst hv9
                  refine W.eq (g2 := F0 m 523 ls [.int (nI (N 3)), .int w, .ref (q 0)]) rfl ?_
                  refine ro_S S hkx (mL_low l (v := w) (k := (N 3)) (h0 := (by omega)) (hk := (by omega))) gL_change_L_low rfl idL_low.2 ⟨Nat.le_of_ble_eq_true rfl, Nat.le_of_ble_eq_true rfl⟩ rfl hl.1 rfl (Nat.le_of_ble_eq_true rfl) dL_change_523 ⟨Nat.le_of_ble_eq_true rfl, Nat.le_of_ble_eq_true rfl⟩ (fun r9 hr9 => ?_)
                  subst hr9
                  refine W.eq (g2 := F0 m 526 ls [.int (nI (lowN w (N 3))), .ref (q 0)]) rfl ?_
                  refine wn_V S hkx hth (nX5_dropShim l hl0 (sa := sa) (A9 := A) (h9 := (fun q h => hA q (Nat.le_trans hS.1 h))) (hP := hP) (hD := hD.weaken (fun _ _ _ _ => trivial)) (hwf := hwf) (hsc := (by omega)) (ht := (lowN_lt w (by omega))) (t := (lowN w (N 3)))) gL_change_X5_dropShim rfl idX5_dropShim ⟨Nat.le_of_ble_eq_true rfl, Nat.le_of_ble_eq_true rfl⟩ hP 0 rfl rfl rfl rfl hl.1 rfl (Nat.le_of_ble_eq_true rfl) dL_change_526 ⟨Nat.le_of_ble_eq_true rfl, Nat.le_of_ble_eq_true rfl⟩ hS (fr_in hD (fun q h => hA q (Nat.le_trans hS.1 h))) (fun v9 H locs hp9 hz1 hk1 hS => ?_)
                  obtain ⟨rfl, hP⟩ := hp9
                  have hP : va_P G vwCl (wMain T q a (va_up N 3 (N 3 - 1)) (sDel Z (lowN w (N 3)) (N 3 - 1)) (svB sc b) (psh sc M N) (psh sc Y Z) (svC sc) tx L cu er le nb nc) H := hP
                  have hD : va_D A (wMain T q a (va_up N 3 (N 3 - 1)) (sDel Z (lowN w (N 3)) (N 3 - 1)) (svB sc b) (psh sc M N) (psh sc Y Z) (svC sc) tx L cu er le nb nc) := D_perm hD sv_addr
                  have hth := hth0.kept hS.2.1
                  refine W.eq (g2 := F0 m 529 ls [.int (nI (N 3 - 1))]) rfl ?_
                  refine lv_goto (tgt := 533) hx hb dL_change_529 (by decide) ?_
                  have hv9 : chg N Z v w = ((nI (N 3 - 1)), (va_up N 3 (N 3 - 1)), (sDel Z (lowN w (N 3)) (N 3 - 1))) := by rw [hg]; unfold chB; rw [if_pos (by first | assumption | omega | exact ⟨by first | assumption | omega, by first | assumption | omega⟩ | exact ⟨by first | assumption | omega, by first | assumption | omega, by first | assumption | omega⟩)]
                  exact hret _ H _ _ _ _ _ (show some (Value.int (nI (N 3 - 1))) = some (Value.int ((chg N Z v w).1)) ∧ wst G T q a (chg N Z v w).2.1 (chg N Z v w).2.2 b tx L cu er le nb nc H from ⟨by rw [hv9], by rw [hv9]; exact wst_sv hsc hP⟩) rfl hS (Nat.le_of_ble_eq_true rfl) (Nat.le_of_ble_eq_true rfl) dL_change_533
            exact L75   _ _ hP hD hS _ (lv_sub hl [1, 2, 3, 4, 5, 6, 7, 0] rfl)
          · replace c_3 := cn_eq (a := (N 1)) (b := 0) (by omega) (by omega) c_3
            refine lv_iconst (v := 0) hx hb dL_change_62 (by decide) ?_
            refine lv_goto (tgt := 75) hx hb dL_change_63 (by decide) ?_
            refine W.eq (g2 := F0 m 75 ls [.int (nI (chF N v))]) (congrArg (fun z9 => F0 m 75 ls (.int z9 :: [])) (by unfold chF; rw [if_pos c_3]; rfl)) ?_
            have L75 :  ∀ (H : Heap) (locs : List Loc), va_P G vwCl (wMain T q a N Z b M Y sc tx L cu er le nb nc) H → va_D A (wMain T q a N Z b M Y sc tx L cu er le nb nc) → va_S A H0 H locs → ∀ ls : Array Slot, lv_has ls 11 [(0, .ref (q 0)), (1, .int v), (2, .int w), (3, .int (nI (N 0))), (4, .int (nI (N 1))), (5, .int (nI (N 2))), (6, .int (nI (chU N v))), (7, .int (nI (chA N v)))] → W p l e (rmx 9 180 3) s m ([.ref (q 0), .int v, .int w] : List Value).toArray below meth c H locs 0 0 Q (F0 m 75 ls [.int (nI (chF N v))]) := by
              intro   H locs hP hD hS ls hl
              have hth := hth0.kept hS.2.1
              refine lv_istore (lv' := [(8, .int (nI (chF N v))), (0, .ref (q 0)), (1, .int v), (2, .int w), (3, .int (nI (N 0))), (4, .int (nI (N 1))), (5, .int (nI (N 2))), (6, .int (nI (chU N v))), (7, .int (nI (chA N v)))]) hx hb dL_change_75 hl (by decide) rfl (fun ls hl => ?_)
              refine lv_iload_n hx hb dL_change_77 rfl (lv_at hl 3 rfl) ?_
              refine lv_sipush (v := 200) hx hb dL_change_78 (by decide) ?_
              refine ro_S S hkx (mL_low l (v := w) (k := 200) (h0 := (by omega)) (hk := (by omega))) gL_change_L_low rfl idL_low.2 ⟨Nat.le_of_ble_eq_true rfl, Nat.le_of_ble_eq_true rfl⟩ rfl hl.1 rfl (Nat.le_of_ble_eq_true rfl) dL_change_81 ⟨Nat.le_of_ble_eq_true rfl, Nat.le_of_ble_eq_true rfl⟩ (fun r9 hr9 => ?_)
              subst hr9
              refine W.eq (g2 := F0 m 84 ls [.int (nI (lowN w 200))]) rfl ?_
              refine lv_istore (lv' := [(9, .int (nI (lowN w 200))), (8, .int (nI (chF N v))), (0, .ref (q 0)), (1, .int v), (2, .int w), (3, .int (nI (N 0))), (4, .int (nI (N 1))), (5, .int (nI (N 2))), (6, .int (nI (chU N v))), (7, .int (nI (chA N v)))]) hx hb dL_change_84 hl (by decide) rfl (fun ls hl => ?_)
              refine lv_iload_n hx hb dL_change_86 rfl (lv_at hl 3 rfl) ?_
              refine lv_bipush (v := 12) hx hb dL_change_87 (by decide) ?_
              refine ro_S S hkx (mL_low l (v := v) (k := 12) (h0 := (by omega)) (hk := (by omega))) gL_change_L_low rfl idL_low.2 ⟨Nat.le_of_ble_eq_true rfl, Nat.le_of_ble_eq_true rfl⟩ rfl hl.1 rfl (Nat.le_of_ble_eq_true rfl) dL_change_89 ⟨Nat.le_of_ble_eq_true rfl, Nat.le_of_ble_eq_true rfl⟩ (fun r9 hr9 => ?_)
              subst hr9
              refine W.eq (g2 := F0 m 92 ls [.int (nI (lowN v 12))]) rfl ?_
              obtain ⟨cz, hcz⟩ : ∃ cz, lowN v 12 = cz := ⟨_, rfl⟩
              have hcz12 : cz < 12 := hcz ▸ lowN_lt v (by decide)
              refine W.eq (g2 := F0 m 92 ls [.int (nI cz)]) (congrArg (fun z9 => F0 m 92 ls (.int z9 :: [])) (congrArg nI hcz)) ?_
              rcases (show cz = 0 ∨ cz = 1 ∨ cz = 2 ∨ cz = 3 ∨ cz = 4 ∨ cz = 5 ∨ cz = 6 ∨ cz = 7 ∨ cz = 8 ∨ cz = 9 ∨ cz = 10 ∨ cz = 11 by omega) with rfl | rfl | rfl | rfl | rfl | rfl | rfl | rfl | rfl | rfl | rfl | rfl
              · refine lv_tableIn (off := 60) (tgt := 152) hx hb dL_change_92 (by decide) (by decide) rfl (by decide) ?_
                have hg : chg N Z v w = ch0 N Z w := by unfold chg; rw [hcz]; rfl
                refine lv_iload_n hx hb dL_change_152 rfl (lv_at hl 5 rfl) ?_
                refine lv_iconst (v := 5) hx hb dL_change_153 (by decide) ?_
                refine lv_icmp_ge (tgt := 184) hx hb dL_change_154 (by decide) (fun c_30 => ?_) (fun c_30 => ?_)
                · replace c_30 := cn_le (a := 5) (b := (N 0)) (by omega) (by omega) c_30
                  refine lv_aload_n hx hb dL_change_184 rfl (lv_at hl 2 rfl) ?_
                  refine lv_iconst (v := 4) hx hb dL_change_185 (by decide) ?_
                  refine rn_V S hkx hth (nX5_value l hl0 (sa := sa) (h9 := (fun q h => hA q (Nat.le_trans hS.1 h))) (hP := hP) (hwf := hwf) (hw := (by omega)) (w := 4)) gL_change_X5_value rfl idX5_value ⟨Nat.le_of_ble_eq_true rfl, Nat.le_of_ble_eq_true rfl⟩ hP 0 rfl rfl rfl rfl hl.1 rfl (Nat.le_of_ble_eq_true rfl) dL_change_186 ⟨Nat.le_of_ble_eq_true rfl, Nat.le_of_ble_eq_true rfl⟩ (fun v9 hv9 => ?_)
                  subst hv9
                  refine W.eq (g2 := F0 m 189 ls [.int (plC Z (N 2))]) rfl ?_
                  have hv9 : chg N Z v w = ((plC Z (N 2)), N, Z) := by rw [hg]; unfold ch0; rw [if_neg (by first | assumption | omega | exact (fun q9 => by first | omega | exact absurd q9.2 (by assumption) | exact absurd q9.2.1 (by assumption) | exact absurd q9.2.2 (by assumption)))]
                  exact hret _ H _ _ _ _ _ (show some (Value.int (plC Z (N 2))) = some (Value.int ((chg N Z v w).1)) ∧ wst G T q a (chg N Z v w).2.1 (chg N Z v w).2.2 b tx L cu er le nb nc H from ⟨by rw [hv9], by rw [hv9]; exact wst_id hsc hP⟩) rfl hS (Nat.le_of_ble_eq_true rfl) (Nat.le_of_ble_eq_true rfl) dL_change_189
                · replace c_30 := cn_nle (a := 5) (b := (N 0)) (by omega) (by omega) c_30
                  refine lv_aload_n hx hb dL_change_157 rfl (lv_at hl 2 rfl) ?_
                  refine lv_iload hx hb dL_change_158 (lv_at hl 0 rfl) ?_
                  refine lv_iload hx hb dL_change_160 (lv_at hl 0 rfl) ?_
                  refine lv_iconst (v := 1) hx hb dL_change_162 (by decide) ?_
                  refine lv_iadd hx hb dL_change_163 ?_
                  refine W.eq (g2 := F0 m 164 ls [.int (nI ((lowN w 200) + 1)), .int (nI (lowN w 200)), .ref (q 0)]) (congrArg (fun z9 => F0 m 164 ls (.int z9 :: [.int (nI (lowN w 200)), .ref (q 0)])) (nI_add _ 1)) ?_
                  refine lv_iload_n hx hb dL_change_164 rfl (lv_at hl 4 rfl) ?_
                  refine lv_bipush (v := 8) hx hb dL_change_165 (by decide) ?_
                  refine lv_ishr hx hb dL_change_167 ?_
                  refine lv_sipush (v := 1000) hx hb dL_change_168 (by decide) ?_
                  refine lv_iload hx hb dL_change_171 (lv_at hl 0 rfl) ?_
                  refine lv_isub hx hb dL_change_173 ?_
                  refine W.eq (g2 := F0 m 174 ls [.int (nI (1000 - (lowN w 200))), .int (w >>> (8 &&& 31)), .int (nI ((lowN w 200) + 1)), .int (nI (lowN w 200)), .ref (q 0)]) (congrArg (fun z9 => F0 m 174 ls (.int z9 :: [.int (w >>> (8 &&& 31)), .int (nI ((lowN w 200) + 1)), .int (nI (lowN w 200)), .ref (q 0)])) (pk_sub (a := 1000) (b := (lowN w 200)) (by omega))) ?_
                  refine ro_S S hkx (mL_low l (v := (w >>> (8 &&& 31))) (k := (1000 - (lowN w 200))) (h0 := (by omega)) (hk := (by omega))) gL_change_L_low rfl idL_low.2 ⟨Nat.le_of_ble_eq_true rfl, Nat.le_of_ble_eq_true rfl⟩ rfl hl.1 rfl (Nat.le_of_ble_eq_true rfl) dL_change_174 ⟨Nat.le_of_ble_eq_true rfl, Nat.le_of_ble_eq_true rfl⟩ (fun r9 hr9 => ?_)
                  subst hr9
                  refine W.eq (g2 := F0 m 177 ls [.int (nI (lowN (w >>> (8 &&& 31)) (1000 - (lowN w 200)))), .int (nI ((lowN w 200) + 1)), .int (nI (lowN w 200)), .ref (q 0)]) rfl ?_
                  refine lv_iadd hx hb dL_change_177 ?_
                  refine W.eq (g2 := F0 m 178 ls [.int (nI (((lowN w 200) + 1) + (lowN (w >>> (8 &&& 31)) (1000 - (lowN w 200))))), .int (nI (lowN w 200)), .ref (q 0)]) (congrArg (fun z9 => F0 m 178 ls (.int z9 :: [.int (nI (lowN w 200)), .ref (q 0)])) (nI_add _ _)) ?_
                  refine wn_V S hkx hth (nX5_addVersion l hl0 (sa := sa) (A9 := A) (h9 := (fun q h => hA q (Nat.le_trans hS.1 h))) (hP := hP) (hD := hD.weaken (fun _ _ _ _ => trivial)) (hwf := hwf) (hsc := (by omega)) (hx := (by omega)) (hz1 := (by omega)) (hz := (by omega)) (h8 := (by omega)) (x := (lowN w 200)) (z := (((lowN w 200) + 1) + (lowN (w >>> (8 &&& 31)) (1000 - (lowN w 200)))))) gL_change_X5_addVersion rfl idX5_addVersion ⟨Nat.le_of_ble_eq_true rfl, Nat.le_of_ble_eq_true rfl⟩ hP 0 rfl rfl rfl rfl hl.1 rfl (Nat.le_of_ble_eq_true rfl) dL_change_178 ⟨Nat.le_of_ble_eq_true rfl, Nat.le_of_ble_eq_true rfl⟩ hS (fr_in hD (fun q h => hA q (Nat.le_trans hS.1 h))) (fun v9 H locs hp9 hz1 hk1 hS => ?_)
                  obtain ⟨rfl, hP⟩ := hp9
                  have hP : va_P G vwCl (wMain T q a (va_up N 0 (N 0 + 1)) (vAdd N Z (nI (lowN w 200)) (nI (((lowN w 200) + 1) + (lowN (w >>> (8 &&& 31)) (1000 - (lowN w 200)))))) (svB sc b) (psh sc M N) (psh sc Y Z) (svC sc) tx L cu er le nb nc) H := hP
                  have hD : va_D A (wMain T q a (va_up N 0 (N 0 + 1)) (vAdd N Z (nI (lowN w 200)) (nI (((lowN w 200) + 1) + (lowN (w >>> (8 &&& 31)) (1000 - (lowN w 200)))))) (svB sc b) (psh sc M N) (psh sc Y Z) (svC sc) tx L cu er le nb nc) := D_perm hD sv_addr
                  have hth := hth0.kept hS.2.1
                  refine W.eq (g2 := F0 m 181 ls [.int (nI (N 0))]) rfl ?_
                  refine lv_goto (tgt := 189) hx hb dL_change_181 (by decide) ?_
                  have hv9 : chg N Z v w = ((nI (N 0)), (va_up N 0 (N 0 + 1)), (vAdd N Z (nI (lowN w 200)) (nI (((lowN w 200) + 1) + (lowN (w >>> (8 &&& 31)) (1000 - (lowN w 200))))))) := by rw [hg]; unfold ch0; rw [if_pos (by first | assumption | omega | exact ⟨by first | assumption | omega, by first | assumption | omega⟩ | exact ⟨by first | assumption | omega, by first | assumption | omega, by first | assumption | omega⟩)]
                  exact hret _ H _ _ _ _ _ (show some (Value.int (nI (N 0))) = some (Value.int ((chg N Z v w).1)) ∧ wst G T q a (chg N Z v w).2.1 (chg N Z v w).2.2 b tx L cu er le nb nc H from ⟨by rw [hv9], by rw [hv9]; exact wst_sv hsc hP⟩) rfl hS (Nat.le_of_ble_eq_true rfl) (Nat.le_of_ble_eq_true rfl) dL_change_189
              · refine lv_tableIn (off := 98) (tgt := 190) hx hb dL_change_92 (by decide) (by decide) rfl (by decide) ?_
                have hg : chg N Z v w = ch1 N Z w := by unfold chg; rw [hcz]; rfl
                refine lv_iload_n hx hb dL_change_190 rfl (lv_at hl 5 rfl) ?_
                refine lv_if_le (tgt := 215) hx hb dL_change_191 (by decide) (fun c_31 => ?_) (fun c_31 => ?_)
                · replace c_31 := cn_le (a := (N 0)) (b := 0) (by omega) (by omega) c_31
                  refine lv_iload_n hx hb dL_change_215 rfl (lv_at hl 5 rfl) ?_
                  refine lv_if_ne (tgt := 230) hx hb dL_change_216 (by decide) (fun c_32 => ?_) (fun c_32 => ?_)
                  · exact absurd (show nI (N 0) = 0 by rw [show N 0 = 0 by omega]; rfl) c_32
                  · replace c_32 := cn_eq (a := (N 0)) (b := 0) (by omega) (by omega) c_32
                    refine lv_aload_n hx hb dL_change_219 rfl (lv_at hl 2 rfl) ?_
                    refine lv_iconst (v := 0) hx hb dL_change_220 (by decide) ?_
                    refine lv_sipush (v := 700) hx hb dL_change_221 (by decide) ?_
                    refine wn_V S hkx hth (nX5_addVersion l hl0 (sa := sa) (A9 := A) (h9 := (fun q h => hA q (Nat.le_trans hS.1 h))) (hP := hP) (hD := hD.weaken (fun _ _ _ _ => trivial)) (hwf := hwf) (hsc := (by omega)) (hx := (by omega)) (hz1 := (by omega)) (hz := (by omega)) (h8 := (by omega)) (x := 0) (z := 700)) gL_change_X5_addVersion rfl idX5_addVersion ⟨Nat.le_of_ble_eq_true rfl, Nat.le_of_ble_eq_true rfl⟩ hP 0 rfl rfl rfl rfl hl.1 rfl (Nat.le_of_ble_eq_true rfl) dL_change_224 ⟨Nat.le_of_ble_eq_true rfl, Nat.le_of_ble_eq_true rfl⟩ hS (fr_in hD (fun q h => hA q (Nat.le_trans hS.1 h))) (fun v9 H locs hp9 hz1 hk1 hS => ?_)
                    obtain ⟨rfl, hP⟩ := hp9
                    have hP : va_P G vwCl (wMain T q a (va_up N 0 (N 0 + 1)) (vAdd N Z (nI 0) (nI 700)) (svB sc b) (psh sc M N) (psh sc Y Z) (svC sc) tx L cu er le nb nc) H := hP
                    have hD : va_D A (wMain T q a (va_up N 0 (N 0 + 1)) (vAdd N Z (nI 0) (nI 700)) (svB sc b) (psh sc M N) (psh sc Y Z) (svC sc) tx L cu er le nb nc) := D_perm hD sv_addr
                    have hth := hth0.kept hS.2.1
                    refine W.eq (g2 := F0 m 227 ls [.int (nI (N 0))]) rfl ?_
                    refine lv_goto (tgt := 231) hx hb dL_change_227 (by decide) ?_
                    have hv9 : chg N Z v w = ((nI (N 0)), (va_up N 0 (N 0 + 1)), (vAdd N Z (nI 0) (nI 700))) := by rw [hg]; unfold ch1; rw [if_neg (by first | assumption | omega | exact (fun q9 => by first | omega | exact absurd q9.2 (by assumption) | exact absurd q9.2.1 (by assumption) | exact absurd q9.2.2 (by assumption)))]; rw [if_pos (by first | assumption | omega | exact ⟨by first | assumption | omega, by first | assumption | omega⟩ | exact ⟨by first | assumption | omega, by first | assumption | omega, by first | assumption | omega⟩)]
                    exact hret _ H _ _ _ _ _ (show some (Value.int (nI (N 0))) = some (Value.int ((chg N Z v w).1)) ∧ wst G T q a (chg N Z v w).2.1 (chg N Z v w).2.2 b tx L cu er le nb nc H from ⟨by rw [hv9], by rw [hv9]; exact wst_sv hsc hP⟩) rfl hS (Nat.le_of_ble_eq_true rfl) (Nat.le_of_ble_eq_true rfl) dL_change_231
                · replace c_31 := cn_nle (a := (N 0)) (b := 0) (by omega) (by omega) c_31
                  refine lv_iload hx hb dL_change_194 (lv_at hl 6 rfl) ?_
                  refine lv_bipush (v := 6) hx hb dL_change_196 (by decide) ?_
                  refine lv_icmp_ge (tgt := 215) hx hb dL_change_198 (by decide) (fun c_33 => ?_) (fun c_33 => ?_)
                  · replace c_33 := cn_le (a := 6) (b := (N 1)) (by omega) (by omega) c_33
                    refine lv_iload_n hx hb dL_change_215 rfl (lv_at hl 5 rfl) ?_
                    refine lv_if_ne (tgt := 230) hx hb dL_change_216 (by decide) (fun c_34 => ?_) (fun c_34 => ?_)
                    · replace c_34 := cn_ne (a := (N 0)) (b := 0) (by omega) (by omega) c_34
                      refine lv_iconst (v := 0) hx hb dL_change_230 (by decide) ?_
                      have hv9 : chg N Z v w = (0, N, Z) := by rw [hg]; unfold ch1; rw [if_neg (by first | assumption | omega | exact (fun q9 => by first | omega | exact absurd q9.2 (by assumption) | exact absurd q9.2.1 (by assumption) | exact absurd q9.2.2 (by assumption)))]; rw [if_neg (by first | assumption | omega | exact (fun q9 => by first | omega | exact absurd q9.2 (by assumption) | exact absurd q9.2.1 (by assumption) | exact absurd q9.2.2 (by assumption)))]
                      exact hret _ H _ _ _ _ _ (show some (Value.int 0) = some (Value.int ((chg N Z v w).1)) ∧ wst G T q a (chg N Z v w).2.1 (chg N Z v w).2.2 b tx L cu er le nb nc H from ⟨by rw [hv9], by rw [hv9]; exact wst_id hsc hP⟩) rfl hS (Nat.le_of_ble_eq_true rfl) (Nat.le_of_ble_eq_true rfl) dL_change_231
                    · exfalso; replace c_34 := cn_eq (a := N 0) (b := 0) (by omega) (by omega) c_34; omega
                  · replace c_33 := cn_nle (a := 6) (b := (N 1)) (by omega) (by omega) c_33
                    refine lv_aload_n hx hb dL_change_201 rfl (lv_at hl 2 rfl) ?_
                    refine lv_iload_n hx hb dL_change_202 rfl (lv_at hl 4 rfl) ?_
                    refine lv_iconst (v := 1) hx hb dL_change_203 (by decide) ?_
                    refine lv_iload_n hx hb dL_change_204 rfl (lv_at hl 5 rfl) ?_
                    refine lv_ishl hx hb dL_change_205 ?_
                    refine W.eq (g2 := F0 m 206 ls [.int (nI (2 ^ N 0)), .int w, .ref (q 0)]) (congrArg (fun z9 => F0 m 206 ls (.int z9 :: [.int w, .ref (q 0)])) (sh_1 (N 0) (by omega))) ?_
                    refine ro_S S hkx (mL_low l (v := w) (k := (2 ^ N 0)) (h0 := (Nat.pow_pos (by decide))) (hk := (Nat.pow_lt_pow_right (by decide) (by omega)))) gL_change_L_low rfl idL_low.2 ⟨Nat.le_of_ble_eq_true rfl, Nat.le_of_ble_eq_true rfl⟩ rfl hl.1 rfl (Nat.le_of_ble_eq_true rfl) dL_change_206 ⟨Nat.le_of_ble_eq_true rfl, Nat.le_of_ble_eq_true rfl⟩ (fun r9 hr9 => ?_)
                    subst hr9
                    refine W.eq (g2 := F0 m 209 ls [.int (nI (lowN w (2 ^ N 0))), .ref (q 0)]) rfl ?_
                    refine wn_V S hkx hth (nX5_addFeature l hl0 (sa := sa) (A9 := A) (h9 := (fun q h => hA q (Nat.le_trans hS.1 h))) (hP := hP) (hD := hD.weaken (fun _ _ _ _ => trivial)) (hwf := hwf) (hsc := (by omega)) (hx := (lowN_lt _ (Nat.pow_pos (by decide)))) (h8 := (by omega)) (x := (lowN w (2 ^ N 0)))) gL_change_X5_addFeature rfl idX5_addFeature ⟨Nat.le_of_ble_eq_true rfl, Nat.le_of_ble_eq_true rfl⟩ hP 0 rfl rfl rfl rfl hl.1 rfl (Nat.le_of_ble_eq_true rfl) dL_change_209 ⟨Nat.le_of_ble_eq_true rfl, Nat.le_of_ble_eq_true rfl⟩ hS (fr_in hD (fun q h => hA q (Nat.le_trans hS.1 h))) (fun v9 H locs hp9 hz1 hk1 hS => ?_)
                    obtain ⟨rfl, hP⟩ := hp9
                    have hP : va_P G vwCl (wMain T q a (va_up N 1 (N 1 + 1)) (va_up Z 4 (apF (Z 4) (nI (lowN w (2 ^ N 0))) (N 1) (N 0))) (svB sc b) (psh sc M N) (psh sc Y Z) (svC sc) tx L cu er le nb nc) H := hP
                    have hD : va_D A (wMain T q a (va_up N 1 (N 1 + 1)) (va_up Z 4 (apF (Z 4) (nI (lowN w (2 ^ N 0))) (N 1) (N 0))) (svB sc b) (psh sc M N) (psh sc Y Z) (svC sc) tx L cu er le nb nc) := D_perm hD sv_addr
                    have hth := hth0.kept hS.2.1
                    refine W.eq (g2 := F0 m 212 ls [.int (nI (N 1))]) rfl ?_
                    refine lv_goto (tgt := 231) hx hb dL_change_212 (by decide) ?_
                    have hv9 : chg N Z v w = ((nI (N 1)), (va_up N 1 (N 1 + 1)), (va_up Z 4 (apF (Z 4) (nI (lowN w (2 ^ N 0))) (N 1) (N 0)))) := by rw [hg]; unfold ch1; rw [if_pos (by first | assumption | omega | exact ⟨by first | assumption | omega, by first | assumption | omega⟩ | exact ⟨by first | assumption | omega, by first | assumption | omega, by first | assumption | omega⟩)]
                    exact hret _ H _ _ _ _ _ (show some (Value.int (nI (N 1))) = some (Value.int ((chg N Z v w).1)) ∧ wst G T q a (chg N Z v w).2.1 (chg N Z v w).2.2 b tx L cu er le nb nc H from ⟨by rw [hv9], by rw [hv9]; exact wst_sv hsc hP⟩) rfl hS (Nat.le_of_ble_eq_true rfl) (Nat.le_of_ble_eq_true rfl) dL_change_231
              · refine lv_tableIn (off := 140) (tgt := 232) hx hb dL_change_92 (by decide) (by decide) rfl (by decide) ?_
                have hg : chg N Z v w = ch2 N Z v := by unfold chg; rw [hcz]; rfl
                refine lv_iload_n hx hb dL_change_232 rfl (lv_at hl 5 rfl) ?_
                refine lv_if_le (tgt := 272) hx hb dL_change_233 (by decide) (fun c_35 => ?_) (fun c_35 => ?_)
                · replace c_35 := cn_le (a := (N 0)) (b := 0) (by omega) (by omega) c_35
                  refine lv_iconst (v := 0) hx hb dL_change_272 (by decide) ?_
                  have hv9 : chg N Z v w = (0, N, Z) := by rw [hg]; unfold ch2; rw [if_neg (by first | assumption | omega | exact (fun q9 => by first | omega | exact absurd q9.2 (by assumption) | exact absurd q9.2.1 (by assumption) | exact absurd q9.2.2 (by assumption)))]
                  exact hret _ H _ _ _ _ _ (show some (Value.int 0) = some (Value.int ((chg N Z v w).1)) ∧ wst G T q a (chg N Z v w).2.1 (chg N Z v w).2.2 b tx L cu er le nb nc H from ⟨by rw [hv9], by rw [hv9]; exact wst_id hsc hP⟩) rfl hS (Nat.le_of_ble_eq_true rfl) (Nat.le_of_ble_eq_true rfl) dL_change_273
                · replace c_35 := cn_nle (a := (N 0)) (b := 0) (by omega) (by omega) c_35
                  refine lv_iload hx hb dL_change_236 (lv_at hl 6 rfl) ?_
                  refine lv_if_le (tgt := 272) hx hb dL_change_238 (by decide) (fun c_36 => ?_) (fun c_36 => ?_)
                  · replace c_36 := cn_le (a := (N 1)) (b := 0) (by omega) (by omega) c_36
                    refine lv_iconst (v := 0) hx hb dL_change_272 (by decide) ?_
                    have hv9 : chg N Z v w = (0, N, Z) := by rw [hg]; unfold ch2; rw [if_neg (by first | assumption | omega | exact (fun q9 => by first | omega | exact absurd q9.2 (by assumption) | exact absurd q9.2.1 (by assumption) | exact absurd q9.2.2 (by assumption)))]
                    exact hret _ H _ _ _ _ _ (show some (Value.int 0) = some (Value.int ((chg N Z v w).1)) ∧ wst G T q a (chg N Z v w).2.1 (chg N Z v w).2.2 b tx L cu er le nb nc H from ⟨by rw [hv9], by rw [hv9]; exact wst_id hsc hP⟩) rfl hS (Nat.le_of_ble_eq_true rfl) (Nat.le_of_ble_eq_true rfl) dL_change_273
                  · replace c_36 := cn_nle (a := (N 1)) (b := 0) (by omega) (by omega) c_36
                    refine lv_aload_n hx hb dL_change_241 rfl (lv_at hl 2 rfl) ?_
                    refine lv_iload hx hb dL_change_242 (lv_at hl 1 rfl) ?_
                    refine lv_iload hx hb dL_change_244 (lv_at hl 9 rfl) ?_
                    refine lv_aload_n hx hb dL_change_246 rfl (lv_at hl 2 rfl) ?_
                    refine lv_iload hx hb dL_change_247 (lv_at hl 9 rfl) ?_
                    refine lv_iconst (v := 2) hx hb dL_change_249 (by decide) ?_
                    refine rn_V S hkx hth (nX5_version l hl0 (sa := sa) (h9 := (fun q h => hA q (Nat.le_trans hS.1 h))) (hP := hP) (hwf := hwf) (hv := (chA_lt (by omega))) (hw := (by omega)) (v := (chA N v)) (w := 2)) gL_change_X5_version rfl idX5_version ⟨Nat.le_of_ble_eq_true rfl, Nat.le_of_ble_eq_true rfl⟩ hP 0 rfl rfl rfl rfl hl.1 rfl (Nat.le_of_ble_eq_true rfl) dL_change_250 ⟨Nat.le_of_ble_eq_true rfl, Nat.le_of_ble_eq_true rfl⟩ (fun v9 hv9 => ?_)
                    subst hv9
                    refine W.eq (g2 := F0 m 253 ls [.int (Z 4 (chA N v)), .int (nI (chA N v)), .int (nI (chF N v)), .ref (q 0)]) rfl ?_
                    refine lv_iload hx hb dL_change_253 (lv_at hl 1 rfl) ?_
                    refine lv_ishr hx hb dL_change_255 ?_
                    refine lv_iconst (v := 1) hx hb dL_change_256 (by decide) ?_
                    refine lv_iand hx hb dL_change_257 ?_
                    refine W.eq (g2 := F0 m 258 ls [.int (bI (cnt1 (Z 4 (chA N v)) (nI (chF N v)))), .int (nI (chA N v)), .int (nI (chF N v)), .ref (q 0)]) (congrArg (fun z9 => F0 m 258 ls (.int z9 :: [.int (nI (chA N v)), .int (nI (chF N v)), .ref (q 0)])) (and_cn (Nat.lt_of_lt_of_le (chF_lt (by omega)) (by omega)))) ?_
                    refine lv_if_ne (tgt := 265) hx hb dL_change_258 (by decide) (fun c_37 => ?_) (fun c_37 => ?_)
                    · replace c_37 := bI_n0 c_37
                      refine lv_iconst (v := 0) hx hb dL_change_265 (by decide) ?_
                      refine W.eq (g2 := F0 m 266 ls [.int (bI false), .int (nI (chA N v)), .int (nI (chF N v)), .ref (q 0)]) (congrArg (fun z9 => F0 m 266 ls (.int z9 :: [.int (nI (chA N v)), .int (nI (chF N v)), .ref (q 0)])) (rfl)) ?_
                      refine wn_V S hkx hth (nX5_put l hl0 (sa := sa) (A9 := A) (h9 := (fun q h => hA q (Nat.le_trans hS.1 h))) (hP := hP) (hD := hD.weaken (fun _ _ _ _ => trivial)) (hwf := hwf) (hsc := (by omega)) (hf := (chF_lt (by omega))) (hv := (chA_lt (by omega))) (h8 := (by first | (rw [show cnt1 (Z 4 (chA N v)) (nI (chF N v)) = true by assumption]; decide) | (rw [show cnt1 (Z 4 (chA N v)) (nI (chF N v)) = false by assumption]; decide))) (f := (chF N v)) (v := (chA N v)) (h := false)) gL_change_X5_put rfl idX5_put ⟨Nat.le_of_ble_eq_true rfl, Nat.le_of_ble_eq_true rfl⟩ hP 0 rfl rfl rfl rfl hl.1 rfl (Nat.le_of_ble_eq_true rfl) dL_change_266 ⟨Nat.le_of_ble_eq_true rfl, Nat.le_of_ble_eq_true rfl⟩ hS (fr_in hD (fun q h => hA q (Nat.le_trans hS.1 h))) (fun v9 H locs hp9 hz1 hk1 hS => ?_)
                      obtain ⟨rfl, hP⟩ := hp9
                      have hP : va_P G vwCl (wMain T q a N (va_up Z 4 (upd (Z 4) (chA N v) (Z 4 (chA N v) ^^^ ((1 : Int32) <<< (nI (chF N v) &&& 31))))) (svB sc b) (psh sc M N) (psh sc Y Z) (svC sc) tx L cu er le nb nc) H := hP
                      have hD : va_D A (wMain T q a N (va_up Z 4 (upd (Z 4) (chA N v) (Z 4 (chA N v) ^^^ ((1 : Int32) <<< (nI (chF N v) &&& 31))))) (svB sc b) (psh sc M N) (psh sc Y Z) (svC sc) tx L cu er le nb nc) := D_perm hD sv_addr
                      have hth := hth0.kept hS.2.1
                      refine W.eq (g2 := F0 m 269 ls [.int (allW (va_up Z 4 (upd (Z 4) (chA N v) (Z 4 (chA N v) ^^^ ((1 : Int32) <<< (nI (chF N v) &&& 31))))) (nI (chF N v)) (N 0))]) rfl ?_
                      refine lv_goto (tgt := 273) hx hb dL_change_269 (by decide) ?_
                      have hv9 : chg N Z v w = ((allW (va_up Z 4 (upd (Z 4) (chA N v) (Z 4 (chA N v) ^^^ ((1 : Int32) <<< (nI (chF N v) &&& 31))))) (nI (chF N v)) (N 0)), N, (va_up Z 4 (upd (Z 4) (chA N v) (Z 4 (chA N v) ^^^ ((1 : Int32) <<< (nI (chF N v) &&& 31)))))) := by rw [hg]; unfold ch2; rw [if_pos (by first | assumption | omega | exact ⟨by first | assumption | omega, by first | assumption | omega⟩ | exact ⟨by first | assumption | omega, by first | assumption | omega, by first | assumption | omega⟩)]
                      exact hret _ H _ _ _ _ _ (show some (Value.int (allW (va_up Z 4 (upd (Z 4) (chA N v) (Z 4 (chA N v) ^^^ ((1 : Int32) <<< (nI (chF N v) &&& 31))))) (nI (chF N v)) (N 0))) = some (Value.int ((chg N Z v w).1)) ∧ wst G T q a (chg N Z v w).2.1 (chg N Z v w).2.2 b tx L cu er le nb nc H from ⟨by rw [hv9], by rw [hv9]; exact wst_sv hsc hP⟩) rfl hS (Nat.le_of_ble_eq_true rfl) (Nat.le_of_ble_eq_true rfl) dL_change_273
                    · replace c_37 := bI_e0 c_37
                      refine lv_iconst (v := 1) hx hb dL_change_261 (by decide) ?_
                      refine lv_goto (tgt := 266) hx hb dL_change_262 (by decide) ?_
                      refine W.eq (g2 := F0 m 266 ls [.int (bI true), .int (nI (chA N v)), .int (nI (chF N v)), .ref (q 0)]) (congrArg (fun z9 => F0 m 266 ls (.int z9 :: [.int (nI (chA N v)), .int (nI (chF N v)), .ref (q 0)])) (rfl)) ?_
                      refine wn_V S hkx hth (nX5_put l hl0 (sa := sa) (A9 := A) (h9 := (fun q h => hA q (Nat.le_trans hS.1 h))) (hP := hP) (hD := hD.weaken (fun _ _ _ _ => trivial)) (hwf := hwf) (hsc := (by omega)) (hf := (chF_lt (by omega))) (hv := (chA_lt (by omega))) (h8 := (by first | (rw [show cnt1 (Z 4 (chA N v)) (nI (chF N v)) = true by assumption]; decide) | (rw [show cnt1 (Z 4 (chA N v)) (nI (chF N v)) = false by assumption]; decide))) (f := (chF N v)) (v := (chA N v)) (h := true)) gL_change_X5_put rfl idX5_put ⟨Nat.le_of_ble_eq_true rfl, Nat.le_of_ble_eq_true rfl⟩ hP 0 rfl rfl rfl rfl hl.1 rfl (Nat.le_of_ble_eq_true rfl) dL_change_266 ⟨Nat.le_of_ble_eq_true rfl, Nat.le_of_ble_eq_true rfl⟩ hS (fr_in hD (fun q h => hA q (Nat.le_trans hS.1 h))) (fun v9 H locs hp9 hz1 hk1 hS => ?_)
                      obtain ⟨rfl, hP⟩ := hp9
                      have hP : va_P G vwCl (wMain T q a N (va_up Z 4 (upd (Z 4) (chA N v) (Z 4 (chA N v) ^^^ ((1 : Int32) <<< (nI (chF N v) &&& 31))))) (svB sc b) (psh sc M N) (psh sc Y Z) (svC sc) tx L cu er le nb nc) H := hP
                      have hD : va_D A (wMain T q a N (va_up Z 4 (upd (Z 4) (chA N v) (Z 4 (chA N v) ^^^ ((1 : Int32) <<< (nI (chF N v) &&& 31))))) (svB sc b) (psh sc M N) (psh sc Y Z) (svC sc) tx L cu er le nb nc) := D_perm hD sv_addr
                      have hth := hth0.kept hS.2.1
                      refine W.eq (g2 := F0 m 269 ls [.int (allW (va_up Z 4 (upd (Z 4) (chA N v) (Z 4 (chA N v) ^^^ ((1 : Int32) <<< (nI (chF N v) &&& 31))))) (nI (chF N v)) (N 0))]) rfl ?_
                      refine lv_goto (tgt := 273) hx hb dL_change_269 (by decide) ?_
                      have hv9 : chg N Z v w = ((allW (va_up Z 4 (upd (Z 4) (chA N v) (Z 4 (chA N v) ^^^ ((1 : Int32) <<< (nI (chF N v) &&& 31))))) (nI (chF N v)) (N 0)), N, (va_up Z 4 (upd (Z 4) (chA N v) (Z 4 (chA N v) ^^^ ((1 : Int32) <<< (nI (chF N v) &&& 31)))))) := by rw [hg]; unfold ch2; rw [if_pos (by first | assumption | omega | exact ⟨by first | assumption | omega, by first | assumption | omega⟩ | exact ⟨by first | assumption | omega, by first | assumption | omega, by first | assumption | omega⟩)]
                      exact hret _ H _ _ _ _ _ (show some (Value.int (allW (va_up Z 4 (upd (Z 4) (chA N v) (Z 4 (chA N v) ^^^ ((1 : Int32) <<< (nI (chF N v) &&& 31))))) (nI (chF N v)) (N 0))) = some (Value.int ((chg N Z v w).1)) ∧ wst G T q a (chg N Z v w).2.1 (chg N Z v w).2.2 b tx L cu er le nb nc H from ⟨by rw [hv9], by rw [hv9]; exact wst_sv hsc hP⟩) rfl hS (Nat.le_of_ble_eq_true rfl) (Nat.le_of_ble_eq_true rfl) dL_change_273
              · refine lv_tableIn (off := 182) (tgt := 274) hx hb dL_change_92 (by decide) (by decide) rfl (by decide) ?_
                have hg : chg N Z v w = ch3 N Z v w := by unfold chg; rw [hcz]; rfl
                refine lv_iload_n hx hb dL_change_274 rfl (lv_at hl 5 rfl) ?_
                refine lv_if_le (tgt := 303) hx hb dL_change_275 (by decide) (fun c_38 => ?_) (fun c_38 => ?_)
                · replace c_38 := cn_le (a := (N 0)) (b := 0) (by omega) (by omega) c_38
                  refine lv_iconst (v := 0) hx hb dL_change_303 (by decide) ?_
                  have hv9 : chg N Z v w = (0, N, Z) := by rw [hg]; unfold ch3; rw [if_neg (by first | assumption | omega | exact (fun q9 => by first | omega | exact absurd q9.2 (by assumption) | exact absurd q9.2.1 (by assumption) | exact absurd q9.2.2 (by assumption)))]
                  exact hret _ H _ _ _ _ _ (show some (Value.int 0) = some (Value.int ((chg N Z v w).1)) ∧ wst G T q a (chg N Z v w).2.1 (chg N Z v w).2.2 b tx L cu er le nb nc H from ⟨by rw [hv9], by rw [hv9]; exact wst_id hsc hP⟩) rfl hS (Nat.le_of_ble_eq_true rfl) (Nat.le_of_ble_eq_true rfl) dL_change_304
                · replace c_38 := cn_nle (a := (N 0)) (b := 0) (by omega) (by omega) c_38
                  refine lv_iload hx hb dL_change_278 (lv_at hl 7 rfl) ?_
                  refine lv_iconst (v := 5) hx hb dL_change_280 (by decide) ?_
                  refine lv_icmp_ge (tgt := 303) hx hb dL_change_281 (by decide) (fun c_39 => ?_) (fun c_39 => ?_)
                  · replace c_39 := cn_le (a := 5) (b := (N 2)) (by omega) (by omega) c_39
                    refine lv_iconst (v := 0) hx hb dL_change_303 (by decide) ?_
                    have hv9 : chg N Z v w = (0, N, Z) := by rw [hg]; unfold ch3; rw [if_neg (by first | assumption | omega | exact (fun q9 => by first | omega | exact absurd q9.2 (by assumption) | exact absurd q9.2.1 (by assumption) | exact absurd q9.2.2 (by assumption)))]
                    exact hret _ H _ _ _ _ _ (show some (Value.int 0) = some (Value.int ((chg N Z v w).1)) ∧ wst G T q a (chg N Z v w).2.1 (chg N Z v w).2.2 b tx L cu er le nb nc H from ⟨by rw [hv9], by rw [hv9]; exact wst_id hsc hP⟩) rfl hS (Nat.le_of_ble_eq_true rfl) (Nat.le_of_ble_eq_true rfl) dL_change_304
                  · replace c_39 := cn_nle (a := 5) (b := (N 2)) (by omega) (by omega) c_39
                    refine lv_aload_n hx hb dL_change_284 rfl (lv_at hl 2 rfl) ?_
                    refine lv_iload hx hb dL_change_285 (lv_at hl 9 rfl) ?_
                    refine lv_iload_n hx hb dL_change_287 rfl (lv_at hl 4 rfl) ?_
                    refine lv_iconst (v := 3) hx hb dL_change_288 (by decide) ?_
                    refine lv_ishr hx hb dL_change_289 ?_
                    refine lv_iconst (v := 1) hx hb dL_change_290 (by decide) ?_
                    refine lv_iload hx hb dL_change_291 (lv_at hl 6 rfl) ?_
                    refine lv_ishl hx hb dL_change_293 ?_
                    refine W.eq (g2 := F0 m 294 ls [.int (nI (2 ^ N 1)), .int (w >>> (3 &&& 31)), .int (nI (chA N v)), .ref (q 0)]) (congrArg (fun z9 => F0 m 294 ls (.int z9 :: [.int (w >>> (3 &&& 31)), .int (nI (chA N v)), .ref (q 0)])) (sh_1 (N 1) (by omega))) ?_
                    refine ro_S S hkx (mL_low l (v := (w >>> (3 &&& 31))) (k := (2 ^ N 1)) (h0 := (Nat.pow_pos (by decide))) (hk := (Nat.pow_lt_pow_right (by decide) (by omega)))) gL_change_L_low rfl idL_low.2 ⟨Nat.le_of_ble_eq_true rfl, Nat.le_of_ble_eq_true rfl⟩ rfl hl.1 rfl (Nat.le_of_ble_eq_true rfl) dL_change_294 ⟨Nat.le_of_ble_eq_true rfl, Nat.le_of_ble_eq_true rfl⟩ (fun r9 hr9 => ?_)
                    subst hr9
                    refine W.eq (g2 := F0 m 297 ls [.int (nI (lowN (w >>> (3 &&& 31)) (2 ^ N 1))), .int (nI (chA N v)), .ref (q 0)]) rfl ?_
                    refine wn_V S hkx hth (nX5_addUser l hl0 (sa := sa) (A9 := A) (h9 := (fun q h => hA q (Nat.le_trans hS.1 h))) (hP := hP) (hD := hD.weaken (fun _ _ _ _ => trivial)) (hwf := hwf) (hsc := (by omega)) (hv := (chA_lt (by omega))) (hx := (lowN_lt _ (Nat.pow_pos (by decide)))) (h8 := (by omega)) (v := (chA N v)) (x := (lowN (w >>> (3 &&& 31)) (2 ^ N 1)))) gL_change_X5_addUser rfl idX5_addUser ⟨Nat.le_of_ble_eq_true rfl, Nat.le_of_ble_eq_true rfl⟩ hP 0 rfl rfl rfl rfl hl.1 rfl (Nat.le_of_ble_eq_true rfl) dL_change_297 ⟨Nat.le_of_ble_eq_true rfl, Nat.le_of_ble_eq_true rfl⟩ hS (fr_in hD (fun q h => hA q (Nat.le_trans hS.1 h))) (fun v9 H locs hp9 hz1 hk1 hS => ?_)
                    obtain ⟨rfl, hP⟩ := hp9
                    have hP : va_P G vwCl (wMain T q a (va_up N 2 (N 2 + 1)) (uAdd N Z (nI (chA N v)) (nI (lowN (w >>> (3 &&& 31)) (2 ^ N 1)))) (svB sc b) (psh sc M N) (psh sc Y Z) (svC sc) tx L cu er le nb nc) H := hP
                    have hD : va_D A (wMain T q a (va_up N 2 (N 2 + 1)) (uAdd N Z (nI (chA N v)) (nI (lowN (w >>> (3 &&& 31)) (2 ^ N 1)))) (svB sc b) (psh sc M N) (psh sc Y Z) (svC sc) tx L cu er le nb nc) := D_perm hD sv_addr
                    have hth := hth0.kept hS.2.1
                    refine W.eq (g2 := F0 m 300 ls [.int (nI (N 2))]) rfl ?_
                    refine lv_goto (tgt := 304) hx hb dL_change_300 (by decide) ?_
                    have hv9 : chg N Z v w = ((nI (N 2)), (va_up N 2 (N 2 + 1)), (uAdd N Z (nI (chA N v)) (nI (lowN (w >>> (3 &&& 31)) (2 ^ N 1))))) := by rw [hg]; unfold ch3; rw [if_pos (by first | assumption | omega | exact ⟨by first | assumption | omega, by first | assumption | omega⟩ | exact ⟨by first | assumption | omega, by first | assumption | omega, by first | assumption | omega⟩)]
                    exact hret _ H _ _ _ _ _ (show some (Value.int (nI (N 2))) = some (Value.int ((chg N Z v w).1)) ∧ wst G T q a (chg N Z v w).2.1 (chg N Z v w).2.2 b tx L cu er le nb nc H from ⟨by rw [hv9], by rw [hv9]; exact wst_sv hsc hP⟩) rfl hS (Nat.le_of_ble_eq_true rfl) (Nat.le_of_ble_eq_true rfl) dL_change_304
              · refine lv_tableIn (off := 213) (tgt := 305) hx hb dL_change_92 (by decide) (by decide) rfl (by decide) ?_
                have hg : chg N Z v w = ch4 N Z v w := by unfold chg; rw [hcz]; rfl
                refine lv_iload hx hb dL_change_305 (lv_at hl 7 rfl) ?_
                refine lv_if_le (tgt := 328) hx hb dL_change_307 (by decide) (fun c_40 => ?_) (fun c_40 => ?_)
                · replace c_40 := cn_le (a := (N 2)) (b := 0) (by omega) (by omega) c_40
                  refine lv_iconst (v := 0) hx hb dL_change_328 (by decide) ?_
                  have hv9 : chg N Z v w = (0, N, Z) := by rw [hg]; unfold ch4; rw [if_neg (by first | assumption | omega | exact (fun q9 => by first | omega | exact absurd q9.2 (by assumption) | exact absurd q9.2.1 (by assumption) | exact absurd q9.2.2 (by assumption)))]
                  exact hret _ H _ _ _ _ _ (show some (Value.int 0) = some (Value.int ((chg N Z v w).1)) ∧ wst G T q a (chg N Z v w).2.1 (chg N Z v w).2.2 b tx L cu er le nb nc H from ⟨by rw [hv9], by rw [hv9]; exact wst_id hsc hP⟩) rfl hS (Nat.le_of_ble_eq_true rfl) (Nat.le_of_ble_eq_true rfl) dL_change_329
                · replace c_40 := cn_nle (a := (N 2)) (b := 0) (by omega) (by omega) c_40
                  refine lv_aload_n hx hb dL_change_310 rfl (lv_at hl 2 rfl) ?_
                  refine lv_iload hx hb dL_change_311 (lv_at hl 8 rfl) ?_
                  refine lv_iload hx hb dL_change_313 (lv_at hl 9 rfl) ?_
                  refine lv_iload_n hx hb dL_change_315 rfl (lv_at hl 4 rfl) ?_
                  refine lv_sipush (v := 1000) hx hb dL_change_316 (by decide) ?_
                  refine ro_S S hkx (mL_low l (v := w) (k := 1000) (h0 := (by omega)) (hk := (by omega))) gL_change_L_low rfl idL_low.2 ⟨Nat.le_of_ble_eq_true rfl, Nat.le_of_ble_eq_true rfl⟩ rfl hl.1 rfl (Nat.le_of_ble_eq_true rfl) dL_change_319 ⟨Nat.le_of_ble_eq_true rfl, Nat.le_of_ble_eq_true rfl⟩ (fun r9 hr9 => ?_)
                  subst hr9
                  refine W.eq (g2 := F0 m 322 ls [.int (nI (lowN w 1000)), .int (nI (chA N v)), .int (nI (chU N v)), .ref (q 0)]) rfl ?_
                  refine wn_V S hkx hth (nX5_pledge l hl0 (sa := sa) (A9 := A) (h9 := (fun q h => hA q (Nat.le_trans hS.1 h))) (hP := hP) (hD := hD.weaken (fun _ _ _ _ => trivial)) (hwf := hwf) (hsc := (by omega)) (hu := (chU_lt (by omega))) (hv := (chA_lt (u_v hwf (by omega)))) (hd := (by omega)) (u := (chU N v)) (v := (chA N v)) (d := (lowN w 1000))) gL_change_X5_pledge rfl idX5_pledge ⟨Nat.le_of_ble_eq_true rfl, Nat.le_of_ble_eq_true rfl⟩ hP 0 rfl rfl rfl rfl hl.1 rfl (Nat.le_of_ble_eq_true rfl) dL_change_322 ⟨Nat.le_of_ble_eq_true rfl, Nat.le_of_ble_eq_true rfl⟩ hS (fr_in hD (fun q h => hA q (Nat.le_trans hS.1 h))) (fun v9 H locs hp9 hz1 hk1 hS => ?_)
                  obtain ⟨rfl, hP⟩ := hp9
                  have hP : va_P G vwCl (wMain T q a N (uPl Z (chU N v) (nI (chA N v)) (nI (lowN w 1000))) (svB sc b) (psh sc M N) (psh sc Y Z) (svC sc) tx L cu er le nb nc) H := hP
                  have hD : va_D A (wMain T q a N (uPl Z (chU N v) (nI (chA N v)) (nI (lowN w 1000))) (svB sc b) (psh sc M N) (psh sc Y Z) (svC sc) tx L cu er le nb nc) := D_perm hD sv_addr
                  have hth := hth0.kept hS.2.1
                  refine W.eq (g2 := F0 m 325 ls [.int (Z 8 (chU N v))]) rfl ?_
                  refine lv_goto (tgt := 329) hx hb dL_change_325 (by decide) ?_
                  have hv9 : chg N Z v w = ((Z 8 (chU N v)), N, (uPl Z (chU N v) (nI (chA N v)) (nI (lowN w 1000)))) := by rw [hg]; unfold ch4; rw [if_pos (by first | assumption | omega | exact ⟨by first | assumption | omega, by first | assumption | omega⟩ | exact ⟨by first | assumption | omega, by first | assumption | omega, by first | assumption | omega⟩)]
                  exact hret _ H _ _ _ _ _ (show some (Value.int (Z 8 (chU N v))) = some (Value.int ((chg N Z v w).1)) ∧ wst G T q a (chg N Z v w).2.1 (chg N Z v w).2.2 b tx L cu er le nb nc H from ⟨by rw [hv9], by rw [hv9]; exact wst_sv hsc hP⟩) rfl hS (Nat.le_of_ble_eq_true rfl) (Nat.le_of_ble_eq_true rfl) dL_change_329
              · refine lv_tableIn (off := 213) (tgt := 305) hx hb dL_change_92 (by decide) (by decide) rfl (by decide) ?_
                have hg : chg N Z v w = ch4 N Z v w := by unfold chg; rw [hcz]; rfl
                refine lv_iload hx hb dL_change_305 (lv_at hl 7 rfl) ?_
                refine lv_if_le (tgt := 328) hx hb dL_change_307 (by decide) (fun c_41 => ?_) (fun c_41 => ?_)
                · replace c_41 := cn_le (a := (N 2)) (b := 0) (by omega) (by omega) c_41
                  refine lv_iconst (v := 0) hx hb dL_change_328 (by decide) ?_
                  have hv9 : chg N Z v w = (0, N, Z) := by rw [hg]; unfold ch4; rw [if_neg (by first | assumption | omega | exact (fun q9 => by first | omega | exact absurd q9.2 (by assumption) | exact absurd q9.2.1 (by assumption) | exact absurd q9.2.2 (by assumption)))]
                  exact hret _ H _ _ _ _ _ (show some (Value.int 0) = some (Value.int ((chg N Z v w).1)) ∧ wst G T q a (chg N Z v w).2.1 (chg N Z v w).2.2 b tx L cu er le nb nc H from ⟨by rw [hv9], by rw [hv9]; exact wst_id hsc hP⟩) rfl hS (Nat.le_of_ble_eq_true rfl) (Nat.le_of_ble_eq_true rfl) dL_change_329
                · replace c_41 := cn_nle (a := (N 2)) (b := 0) (by omega) (by omega) c_41
                  refine lv_aload_n hx hb dL_change_310 rfl (lv_at hl 2 rfl) ?_
                  refine lv_iload hx hb dL_change_311 (lv_at hl 8 rfl) ?_
                  refine lv_iload hx hb dL_change_313 (lv_at hl 9 rfl) ?_
                  refine lv_iload_n hx hb dL_change_315 rfl (lv_at hl 4 rfl) ?_
                  refine lv_sipush (v := 1000) hx hb dL_change_316 (by decide) ?_
                  refine ro_S S hkx (mL_low l (v := w) (k := 1000) (h0 := (by omega)) (hk := (by omega))) gL_change_L_low rfl idL_low.2 ⟨Nat.le_of_ble_eq_true rfl, Nat.le_of_ble_eq_true rfl⟩ rfl hl.1 rfl (Nat.le_of_ble_eq_true rfl) dL_change_319 ⟨Nat.le_of_ble_eq_true rfl, Nat.le_of_ble_eq_true rfl⟩ (fun r9 hr9 => ?_)
                  subst hr9
                  refine W.eq (g2 := F0 m 322 ls [.int (nI (lowN w 1000)), .int (nI (chA N v)), .int (nI (chU N v)), .ref (q 0)]) rfl ?_
                  refine wn_V S hkx hth (nX5_pledge l hl0 (sa := sa) (A9 := A) (h9 := (fun q h => hA q (Nat.le_trans hS.1 h))) (hP := hP) (hD := hD.weaken (fun _ _ _ _ => trivial)) (hwf := hwf) (hsc := (by omega)) (hu := (chU_lt (by omega))) (hv := (chA_lt (u_v hwf (by omega)))) (hd := (by omega)) (u := (chU N v)) (v := (chA N v)) (d := (lowN w 1000))) gL_change_X5_pledge rfl idX5_pledge ⟨Nat.le_of_ble_eq_true rfl, Nat.le_of_ble_eq_true rfl⟩ hP 0 rfl rfl rfl rfl hl.1 rfl (Nat.le_of_ble_eq_true rfl) dL_change_322 ⟨Nat.le_of_ble_eq_true rfl, Nat.le_of_ble_eq_true rfl⟩ hS (fr_in hD (fun q h => hA q (Nat.le_trans hS.1 h))) (fun v9 H locs hp9 hz1 hk1 hS => ?_)
                  obtain ⟨rfl, hP⟩ := hp9
                  have hP : va_P G vwCl (wMain T q a N (uPl Z (chU N v) (nI (chA N v)) (nI (lowN w 1000))) (svB sc b) (psh sc M N) (psh sc Y Z) (svC sc) tx L cu er le nb nc) H := hP
                  have hD : va_D A (wMain T q a N (uPl Z (chU N v) (nI (chA N v)) (nI (lowN w 1000))) (svB sc b) (psh sc M N) (psh sc Y Z) (svC sc) tx L cu er le nb nc) := D_perm hD sv_addr
                  have hth := hth0.kept hS.2.1
                  refine W.eq (g2 := F0 m 325 ls [.int (Z 8 (chU N v))]) rfl ?_
                  refine lv_goto (tgt := 329) hx hb dL_change_325 (by decide) ?_
                  have hv9 : chg N Z v w = ((Z 8 (chU N v)), N, (uPl Z (chU N v) (nI (chA N v)) (nI (lowN w 1000)))) := by rw [hg]; unfold ch4; rw [if_pos (by first | assumption | omega | exact ⟨by first | assumption | omega, by first | assumption | omega⟩ | exact ⟨by first | assumption | omega, by first | assumption | omega, by first | assumption | omega⟩)]
                  exact hret _ H _ _ _ _ _ (show some (Value.int (Z 8 (chU N v))) = some (Value.int ((chg N Z v w).1)) ∧ wst G T q a (chg N Z v w).2.1 (chg N Z v w).2.2 b tx L cu er le nb nc H from ⟨by rw [hv9], by rw [hv9]; exact wst_sv hsc hP⟩) rfl hS (Nat.le_of_ble_eq_true rfl) (Nat.le_of_ble_eq_true rfl) dL_change_329
              · refine lv_tableIn (off := 238) (tgt := 330) hx hb dL_change_92 (by decide) (by decide) rfl (by decide) ?_
                have hg : chg N Z v w = ch6 N Z v := by unfold chg; rw [hcz]; rfl
                refine lv_iload hx hb dL_change_330 (lv_at hl 7 rfl) ?_
                refine lv_if_le (tgt := 354) hx hb dL_change_332 (by decide) (fun c_42 => ?_) (fun c_42 => ?_)
                · replace c_42 := cn_le (a := (N 2)) (b := 0) (by omega) (by omega) c_42
                  refine lv_iconst (v := 0) hx hb dL_change_354 (by decide) ?_
                  have hv9 : chg N Z v w = (0, N, Z) := by rw [hg]; unfold ch6; rw [if_neg (by first | assumption | omega | exact (fun q9 => by first | omega | exact absurd q9.2 (by assumption) | exact absurd q9.2.1 (by assumption) | exact absurd q9.2.2 (by assumption)))]
                  exact hret _ H _ _ _ _ _ (show some (Value.int 0) = some (Value.int ((chg N Z v w).1)) ∧ wst G T q a (chg N Z v w).2.1 (chg N Z v w).2.2 b tx L cu er le nb nc H from ⟨by rw [hv9], by rw [hv9]; exact wst_id hsc hP⟩) rfl hS (Nat.le_of_ble_eq_true rfl) (Nat.le_of_ble_eq_true rfl) dL_change_355
                · replace c_42 := cn_nle (a := (N 2)) (b := 0) (by omega) (by omega) c_42
                  refine lv_aload_n hx hb dL_change_335 rfl (lv_at hl 2 rfl) ?_
                  refine lv_iload hx hb dL_change_336 (lv_at hl 8 rfl) ?_
                  refine lv_iconst (v := 2) hx hb dL_change_338 (by decide) ?_
                  refine rn_V S hkx hth (nX5_user l hl0 (sa := sa) (h9 := (fun q h => hA q (Nat.le_trans hS.1 h))) (hP := hP) (hwf := hwf) (hu := (chU_lt (by omega))) (hw := (by omega)) (u := (chU N v)) (w := 2)) gL_change_X5_user rfl idX5_user ⟨Nat.le_of_ble_eq_true rfl, Nat.le_of_ble_eq_true rfl⟩ hP 0 rfl rfl rfl rfl hl.1 rfl (Nat.le_of_ble_eq_true rfl) dL_change_339 ⟨Nat.le_of_ble_eq_true rfl, Nat.le_of_ble_eq_true rfl⟩ (fun v9 hv9 => ?_)
                  subst hv9
                  refine W.eq (g2 := F0 m 342 ls [.int (Z 7 (chU N v))]) rfl ?_
                  refine lv_if_lt (tgt := 354) hx hb dL_change_342 (by decide) (fun c_43 => ?_) (fun c_43 => ?_)
                  · have c_43n := Int32.not_le.mpr c_43
                    refine lv_iconst (v := 0) hx hb dL_change_354 (by decide) ?_
                    have hv9 : chg N Z v w = (0, N, Z) := by rw [hg]; unfold ch6; rw [if_neg (by first | assumption | omega | exact (fun q9 => by first | omega | exact absurd q9.2 (by assumption) | exact absurd q9.2.1 (by assumption) | exact absurd q9.2.2 (by assumption)))]
                    exact hret _ H _ _ _ _ _ (show some (Value.int 0) = some (Value.int ((chg N Z v w).1)) ∧ wst G T q a (chg N Z v w).2.1 (chg N Z v w).2.2 b tx L cu er le nb nc H from ⟨by rw [hv9], by rw [hv9]; exact wst_id hsc hP⟩) rfl hS (Nat.le_of_ble_eq_true rfl) (Nat.le_of_ble_eq_true rfl) dL_change_355
                  · have c_43n := Int32.not_lt.mp c_43
                    refine lv_aload_n hx hb dL_change_345 rfl (lv_at hl 2 rfl) ?_
                    refine lv_iload hx hb dL_change_346 (lv_at hl 8 rfl) ?_
                    refine wn_V S hkx hth (nX5_takeBack l hl0 (sa := sa) (A9 := A) (h9 := (fun q h => hA q (Nat.le_trans hS.1 h))) (hP := hP) (hD := hD.weaken (fun _ _ _ _ => trivial)) (hwf := hwf) (hsc := (by omega)) (hu := (chU_lt (by omega))) (hp := (pl_u hwf (chU_lt (by omega)) (by assumption)).1) (u := (chU N v))) gL_change_X5_takeBack rfl idX5_takeBack ⟨Nat.le_of_ble_eq_true rfl, Nat.le_of_ble_eq_true rfl⟩ hP 0 rfl rfl rfl rfl hl.1 rfl (Nat.le_of_ble_eq_true rfl) dL_change_348 ⟨Nat.le_of_ble_eq_true rfl, Nat.le_of_ble_eq_true rfl⟩ hS (fr_in hD (fun q h => hA q (Nat.le_trans hS.1 h))) (fun v9 H locs hp9 hz1 hk1 hS => ?_)
                    obtain ⟨rfl, hP⟩ := hp9
                    have hP : va_P G vwCl (wMain T q a N (uPl Z (chU N v) (-1) (-1)) (svB sc b) (psh sc M N) (psh sc Y Z) (svC sc) tx L cu er le nb nc) H := hP
                    have hD : va_D A (wMain T q a N (uPl Z (chU N v) (-1) (-1)) (svB sc b) (psh sc M N) (psh sc Y Z) (svC sc) tx L cu er le nb nc) := D_perm hD sv_addr
                    have hth := hth0.kept hS.2.1
                    refine W.eq (g2 := F0 m 351 ls [.int (Z 8 (chU N v))]) rfl ?_
                    refine lv_goto (tgt := 355) hx hb dL_change_351 (by decide) ?_
                    have hv9 : chg N Z v w = ((Z 8 (chU N v)), N, (uPl Z (chU N v) (-1) (-1))) := by rw [hg]; unfold ch6; rw [if_pos (by first | assumption | omega | exact ⟨by first | assumption | omega, by first | assumption | omega⟩ | exact ⟨by first | assumption | omega, by first | assumption | omega, by first | assumption | omega⟩)]
                    exact hret _ H _ _ _ _ _ (show some (Value.int (Z 8 (chU N v))) = some (Value.int ((chg N Z v w).1)) ∧ wst G T q a (chg N Z v w).2.1 (chg N Z v w).2.2 b tx L cu er le nb nc H from ⟨by rw [hv9], by rw [hv9]; exact wst_sv hsc hP⟩) rfl hS (Nat.le_of_ble_eq_true rfl) (Nat.le_of_ble_eq_true rfl) dL_change_355
              · refine lv_tableIn (off := 264) (tgt := 356) hx hb dL_change_92 (by decide) (by decide) rfl (by decide) ?_
                have hg : chg N Z v w = ch7 N Z v w := by unfold chg; rw [hcz]; rfl
                refine lv_iload hx hb dL_change_356 (lv_at hl 7 rfl) ?_
                refine lv_if_le (tgt := 401) hx hb dL_change_358 (by decide) (fun c_44 => ?_) (fun c_44 => ?_)
                · replace c_44 := cn_le (a := (N 2)) (b := 0) (by omega) (by omega) c_44
                  refine lv_iconst (v := 0) hx hb dL_change_401 (by decide) ?_
                  have hv9 : chg N Z v w = (0, N, Z) := by rw [hg]; unfold ch7; rw [if_neg (by first | assumption | omega | exact (fun q9 => by first | omega | exact absurd q9.2 (by assumption) | exact absurd q9.2.1 (by assumption) | exact absurd q9.2.2 (by assumption)))]
                  exact hret _ H _ _ _ _ _ (show some (Value.int 0) = some (Value.int ((chg N Z v w).1)) ∧ wst G T q a (chg N Z v w).2.1 (chg N Z v w).2.2 b tx L cu er le nb nc H from ⟨by rw [hv9], by rw [hv9]; exact wst_id hsc hP⟩) rfl hS (Nat.le_of_ble_eq_true rfl) (Nat.le_of_ble_eq_true rfl) dL_change_402
                · replace c_44 := cn_nle (a := (N 2)) (b := 0) (by omega) (by omega) c_44
                  refine lv_aload_n hx hb dL_change_361 rfl (lv_at hl 2 rfl) ?_
                  refine lv_iload hx hb dL_change_362 (lv_at hl 8 rfl) ?_
                  refine lv_iconst (v := 2) hx hb dL_change_364 (by decide) ?_
                  refine rn_V S hkx hth (nX5_user l hl0 (sa := sa) (h9 := (fun q h => hA q (Nat.le_trans hS.1 h))) (hP := hP) (hwf := hwf) (hu := (chU_lt (by omega))) (hw := (by omega)) (u := (chU N v)) (w := 2)) gL_change_X5_user rfl idX5_user ⟨Nat.le_of_ble_eq_true rfl, Nat.le_of_ble_eq_true rfl⟩ hP 0 rfl rfl rfl rfl hl.1 rfl (Nat.le_of_ble_eq_true rfl) dL_change_365 ⟨Nat.le_of_ble_eq_true rfl, Nat.le_of_ble_eq_true rfl⟩ (fun v9 hv9 => ?_)
                  subst hv9
                  refine W.eq (g2 := F0 m 368 ls [.int (Z 7 (chU N v))]) rfl ?_
                  refine lv_if_lt (tgt := 401) hx hb dL_change_368 (by decide) (fun c_45 => ?_) (fun c_45 => ?_)
                  · have c_45n := Int32.not_le.mpr c_45
                    refine lv_iconst (v := 0) hx hb dL_change_401 (by decide) ?_
                    have hv9 : chg N Z v w = (0, N, Z) := by rw [hg]; unfold ch7; rw [if_neg (by first | assumption | omega | exact (fun q9 => by first | omega | exact absurd q9.2 (by assumption) | exact absurd q9.2.1 (by assumption) | exact absurd q9.2.2 (by assumption)))]
                    exact hret _ H _ _ _ _ _ (show some (Value.int 0) = some (Value.int ((chg N Z v w).1)) ∧ wst G T q a (chg N Z v w).2.1 (chg N Z v w).2.2 b tx L cu er le nb nc H from ⟨by rw [hv9], by rw [hv9]; exact wst_id hsc hP⟩) rfl hS (Nat.le_of_ble_eq_true rfl) (Nat.le_of_ble_eq_true rfl) dL_change_402
                  · have c_45n := Int32.not_lt.mp c_45
                    refine lv_aload_n hx hb dL_change_371 rfl (lv_at hl 2 rfl) ?_
                    refine lv_iload hx hb dL_change_372 (lv_at hl 8 rfl) ?_
                    refine lv_iconst (v := 3) hx hb dL_change_374 (by decide) ?_
                    refine rn_V S hkx hth (nX5_user l hl0 (sa := sa) (h9 := (fun q h => hA q (Nat.le_trans hS.1 h))) (hP := hP) (hwf := hwf) (hu := (chU_lt (by omega))) (hw := (by omega)) (u := (chU N v)) (w := 3)) gL_change_X5_user rfl idX5_user ⟨Nat.le_of_ble_eq_true rfl, Nat.le_of_ble_eq_true rfl⟩ hP 0 rfl rfl rfl rfl hl.1 rfl (Nat.le_of_ble_eq_true rfl) dL_change_375 ⟨Nat.le_of_ble_eq_true rfl, Nat.le_of_ble_eq_true rfl⟩ (fun v9 hv9 => ?_)
                    subst hv9
                    refine W.eq (g2 := F0 m 378 ls [.int (Z 8 (chU N v))]) rfl ?_
                    refine lv_sipush (v := 900) hx hb dL_change_378 (by decide) ?_
                    refine lv_icmp_ge (tgt := 401) hx hb dL_change_381 (by decide) (fun c_46 => ?_) (fun c_46 => ?_)
                    · have c_46n := Int32.not_lt.mpr c_46
                      refine lv_iconst (v := 0) hx hb dL_change_401 (by decide) ?_
                      have hv9 : chg N Z v w = (0, N, Z) := by rw [hg]; unfold ch7; rw [if_neg (by first | assumption | omega | exact (fun q9 => by first | omega | exact absurd q9.2 (by assumption) | exact absurd q9.2.1 (by assumption) | exact absurd q9.2.2 (by assumption)))]
                      exact hret _ H _ _ _ _ _ (show some (Value.int 0) = some (Value.int ((chg N Z v w).1)) ∧ wst G T q a (chg N Z v w).2.1 (chg N Z v w).2.2 b tx L cu er le nb nc H from ⟨by rw [hv9], by rw [hv9]; exact wst_id hsc hP⟩) rfl hS (Nat.le_of_ble_eq_true rfl) (Nat.le_of_ble_eq_true rfl) dL_change_402
                    · have c_46n := Int32.not_le.mp c_46
                      refine lv_aload_n hx hb dL_change_384 rfl (lv_at hl 2 rfl) ?_
                      refine lv_iload hx hb dL_change_385 (lv_at hl 8 rfl) ?_
                      refine lv_iconst (v := 1) hx hb dL_change_387 (by decide) ?_
                      refine lv_iload_n hx hb dL_change_388 rfl (lv_at hl 4 rfl) ?_
                      refine lv_bipush (v := 99) hx hb dL_change_389 (by decide) ?_
                      refine ro_S S hkx (mL_low l (v := w) (k := 99) (h0 := (by omega)) (hk := (by omega))) gL_change_L_low rfl idL_low.2 ⟨Nat.le_of_ble_eq_true rfl, Nat.le_of_ble_eq_true rfl⟩ rfl hl.1 rfl (Nat.le_of_ble_eq_true rfl) dL_change_391 ⟨Nat.le_of_ble_eq_true rfl, Nat.le_of_ble_eq_true rfl⟩ (fun r9 hr9 => ?_)
                      subst hr9
                      refine W.eq (g2 := F0 m 394 ls [.int (nI (lowN w 99)), .int 1, .int (nI (chU N v)), .ref (q 0)]) rfl ?_
                      refine lv_iadd hx hb dL_change_394 ?_
                      refine W.eq (g2 := F0 m 395 ls [.int (nI (1 + (lowN w 99))), .int (nI (chU N v)), .ref (q 0)]) (congrArg (fun z9 => F0 m 395 ls (.int z9 :: [.int (nI (chU N v)), .ref (q 0)])) (nI_add 1 _)) ?_
                      refine wn_V S hkx hth (nX5_slip l hl0 (sa := sa) (A9 := A) (h9 := (fun q h => hA q (Nat.le_trans hS.1 h))) (hP := hP) (hD := hD.weaken (fun _ _ _ _ => trivial)) (hwf := hwf) (hsc := (by omega)) (hu := (chU_lt (by omega))) (ht1 := (by omega)) (ht := (by omega)) (hp := (pl_u hwf (chU_lt (by omega)) (by assumption)).1) (h9d := (sl_rng hwf (chU_lt (by omega)) (by assumption) (by assumption) (by omega))) (u := (chU N v)) (t := (1 + (lowN w 99)))) gL_change_X5_slip rfl idX5_slip ⟨Nat.le_of_ble_eq_true rfl, Nat.le_of_ble_eq_true rfl⟩ hP 0 rfl rfl rfl rfl hl.1 rfl (Nat.le_of_ble_eq_true rfl) dL_change_395 ⟨Nat.le_of_ble_eq_true rfl, Nat.le_of_ble_eq_true rfl⟩ hS (fr_in hD (fun q h => hA q (Nat.le_trans hS.1 h))) (fun v9 H locs hp9 hz1 hk1 hS => ?_)
                      obtain ⟨rfl, hP⟩ := hp9
                      have hP : va_P G vwCl (wMain T q a N (uSl Z (chU N v) (nI (1 + (lowN w 99)))) (svB sc b) (psh sc M N) (psh sc Y Z) (svC sc) tx L cu er le nb nc) H := hP
                      have hD : va_D A (wMain T q a N (uSl Z (chU N v) (nI (1 + (lowN w 99)))) (svB sc b) (psh sc M N) (psh sc Y Z) (svC sc) tx L cu er le nb nc) := D_perm hD sv_addr
                      have hth := hth0.kept hS.2.1
                      refine W.eq (g2 := F0 m 398 ls [.int (uSl Z (chU N v) (nI (1 + (lowN w 99))) 8 (chU N v))]) rfl ?_
                      refine lv_goto (tgt := 402) hx hb dL_change_398 (by decide) ?_
                      have hv9 : chg N Z v w = ((uSl Z (chU N v) (nI (1 + (lowN w 99))) 8 (chU N v)), N, (uSl Z (chU N v) (nI (1 + (lowN w 99))))) := by rw [hg]; unfold ch7; rw [if_pos (by first | assumption | omega | exact ⟨by first | assumption | omega, by first | assumption | omega⟩ | exact ⟨by first | assumption | omega, by first | assumption | omega, by first | assumption | omega⟩)]
                      exact hret _ H _ _ _ _ _ (show some (Value.int (uSl Z (chU N v) (nI (1 + (lowN w 99))) 8 (chU N v))) = some (Value.int ((chg N Z v w).1)) ∧ wst G T q a (chg N Z v w).2.1 (chg N Z v w).2.2 b tx L cu er le nb nc H from ⟨by rw [hv9], by rw [hv9]; exact wst_sv hsc hP⟩) rfl hS (Nat.le_of_ble_eq_true rfl) (Nat.le_of_ble_eq_true rfl) dL_change_402
              · refine lv_tableIn (off := 311) (tgt := 403) hx hb dL_change_92 (by decide) (by decide) rfl (by decide) ?_
                have hg : chg N Z v w = ch8 N Z v w := by unfold chg; rw [hcz]; rfl
                refine lv_iload_n hx hb dL_change_403 rfl (lv_at hl 5 rfl) ?_
                refine lv_if_le (tgt := 437) hx hb dL_change_404 (by decide) (fun c_47 => ?_) (fun c_47 => ?_)
                · replace c_47 := cn_le (a := (N 0)) (b := 0) (by omega) (by omega) c_47
                  refine lv_iconst (v := 0) hx hb dL_change_437 (by decide) ?_
                  have hv9 : chg N Z v w = (0, N, Z) := by rw [hg]; unfold ch8; rw [if_neg (by first | assumption | omega | exact (fun q9 => by first | omega | exact absurd q9.2 (by assumption) | exact absurd q9.2.1 (by assumption) | exact absurd q9.2.2 (by assumption)))]
                  exact hret _ H _ _ _ _ _ (show some (Value.int 0) = some (Value.int ((chg N Z v w).1)) ∧ wst G T q a (chg N Z v w).2.1 (chg N Z v w).2.2 b tx L cu er le nb nc H from ⟨by rw [hv9], by rw [hv9]; exact wst_id hsc hP⟩) rfl hS (Nat.le_of_ble_eq_true rfl) (Nat.le_of_ble_eq_true rfl) dL_change_438
                · replace c_47 := cn_nle (a := (N 0)) (b := 0) (by omega) (by omega) c_47
                  refine lv_aload_n hx hb dL_change_407 rfl (lv_at hl 2 rfl) ?_
                  refine lv_iload hx hb dL_change_408 (lv_at hl 9 rfl) ?_
                  refine lv_iconst (v := 1) hx hb dL_change_410 (by decide) ?_
                  refine rn_V S hkx hth (nX5_version l hl0 (sa := sa) (h9 := (fun q h => hA q (Nat.le_trans hS.1 h))) (hP := hP) (hwf := hwf) (hv := (chA_lt (by omega))) (hw := (by omega)) (v := (chA N v)) (w := 1)) gL_change_X5_version rfl idX5_version ⟨Nat.le_of_ble_eq_true rfl, Nat.le_of_ble_eq_true rfl⟩ hP 0 rfl rfl rfl rfl hl.1 rfl (Nat.le_of_ble_eq_true rfl) dL_change_411 ⟨Nat.le_of_ble_eq_true rfl, Nat.le_of_ble_eq_true rfl⟩ (fun v9 hv9 => ?_)
                  subst hv9
                  refine W.eq (g2 := F0 m 414 ls [.int (Z 2 (chA N v))]) rfl ?_
                  refine lv_sipush (v := 900) hx hb dL_change_414 (by decide) ?_
                  refine lv_icmp_ge (tgt := 437) hx hb dL_change_417 (by decide) (fun c_48 => ?_) (fun c_48 => ?_)
                  · have c_48n := Int32.not_lt.mpr c_48
                    refine lv_iconst (v := 0) hx hb dL_change_437 (by decide) ?_
                    have hv9 : chg N Z v w = (0, N, Z) := by rw [hg]; unfold ch8; rw [if_neg (by first | assumption | omega | exact (fun q9 => by first | omega | exact absurd q9.2 (by assumption) | exact absurd q9.2.1 (by assumption) | exact absurd q9.2.2 (by assumption)))]
                    exact hret _ H _ _ _ _ _ (show some (Value.int 0) = some (Value.int ((chg N Z v w).1)) ∧ wst G T q a (chg N Z v w).2.1 (chg N Z v w).2.2 b tx L cu er le nb nc H from ⟨by rw [hv9], by rw [hv9]; exact wst_id hsc hP⟩) rfl hS (Nat.le_of_ble_eq_true rfl) (Nat.le_of_ble_eq_true rfl) dL_change_438
                  · have c_48n := Int32.not_le.mp c_48
                    refine lv_aload_n hx hb dL_change_420 rfl (lv_at hl 2 rfl) ?_
                    refine lv_iload hx hb dL_change_421 (lv_at hl 9 rfl) ?_
                    refine lv_iconst (v := 1) hx hb dL_change_423 (by decide) ?_
                    refine lv_iload_n hx hb dL_change_424 rfl (lv_at hl 4 rfl) ?_
                    refine lv_bipush (v := 99) hx hb dL_change_425 (by decide) ?_
                    refine ro_S S hkx (mL_low l (v := w) (k := 99) (h0 := (by omega)) (hk := (by omega))) gL_change_L_low rfl idL_low.2 ⟨Nat.le_of_ble_eq_true rfl, Nat.le_of_ble_eq_true rfl⟩ rfl hl.1 rfl (Nat.le_of_ble_eq_true rfl) dL_change_427 ⟨Nat.le_of_ble_eq_true rfl, Nat.le_of_ble_eq_true rfl⟩ (fun r9 hr9 => ?_)
                    subst hr9
                    refine W.eq (g2 := F0 m 430 ls [.int (nI (lowN w 99)), .int 1, .int (nI (chA N v)), .ref (q 0)]) rfl ?_
                    refine lv_iadd hx hb dL_change_430 ?_
                    refine W.eq (g2 := F0 m 431 ls [.int (nI (1 + (lowN w 99))), .int (nI (chA N v)), .ref (q 0)]) (congrArg (fun z9 => F0 m 431 ls (.int z9 :: [.int (nI (chA N v)), .ref (q 0)])) (nI_add 1 _)) ?_
                    refine wn_V S hkx hth (nX5_extend l hl0 (sa := sa) (A9 := A) (h9 := (fun q h => hA q (Nat.le_trans hS.1 h))) (hP := hP) (hD := hD.weaken (fun _ _ _ _ => trivial)) (hwf := hwf) (hsc := (by omega)) (hv := (chA_lt (by omega))) (ht1 := (by omega)) (ht := (by omega)) (h9d := (ex_rng hwf (chA_lt (by omega)) (by assumption) (by omega))) (v := (chA N v)) (t := (1 + (lowN w 99)))) gL_change_X5_extend rfl idX5_extend ⟨Nat.le_of_ble_eq_true rfl, Nat.le_of_ble_eq_true rfl⟩ hP 0 rfl rfl rfl rfl hl.1 rfl (Nat.le_of_ble_eq_true rfl) dL_change_431 ⟨Nat.le_of_ble_eq_true rfl, Nat.le_of_ble_eq_true rfl⟩ hS (fr_in hD (fun q h => hA q (Nat.le_trans hS.1 h))) (fun v9 H locs hp9 hz1 hk1 hS => ?_)
                    obtain ⟨rfl, hP⟩ := hp9
                    have hP : va_P G vwCl (wMain T q a N (vExt Z (chA N v) (nI (1 + (lowN w 99)))) (svB sc b) (psh sc M N) (psh sc Y Z) (svC sc) tx L cu er le nb nc) H := hP
                    have hD : va_D A (wMain T q a N (vExt Z (chA N v) (nI (1 + (lowN w 99)))) (svB sc b) (psh sc M N) (psh sc Y Z) (svC sc) tx L cu er le nb nc) := D_perm hD sv_addr
                    have hth := hth0.kept hS.2.1
                    refine W.eq (g2 := F0 m 434 ls [.int (vExt Z (chA N v) (nI (1 + (lowN w 99))) 2 (chA N v))]) rfl ?_
                    refine lv_goto (tgt := 438) hx hb dL_change_434 (by decide) ?_
                    have hv9 : chg N Z v w = ((vExt Z (chA N v) (nI (1 + (lowN w 99))) 2 (chA N v)), N, (vExt Z (chA N v) (nI (1 + (lowN w 99))))) := by rw [hg]; unfold ch8; rw [if_pos (by first | assumption | omega | exact ⟨by first | assumption | omega, by first | assumption | omega⟩ | exact ⟨by first | assumption | omega, by first | assumption | omega, by first | assumption | omega⟩)]
                    exact hret _ H _ _ _ _ _ (show some (Value.int (vExt Z (chA N v) (nI (1 + (lowN w 99))) 2 (chA N v))) = some (Value.int ((chg N Z v w).1)) ∧ wst G T q a (chg N Z v w).2.1 (chg N Z v w).2.2 b tx L cu er le nb nc H from ⟨by rw [hv9], by rw [hv9]; exact wst_sv hsc hP⟩) rfl hS (Nat.le_of_ble_eq_true rfl) (Nat.le_of_ble_eq_true rfl) dL_change_438
              · refine lv_tableIn (off := 347) (tgt := 439) hx hb dL_change_92 (by decide) (by decide) rfl (by decide) ?_
                have hg : chg N Z v w = ch9 N Z v w := by unfold chg; rw [hcz]; rfl
                refine lv_iload_n hx hb dL_change_439 rfl (lv_at hl 4 rfl) ?_
                refine lv_sipush (v := 600) hx hb dL_change_440 (by decide) ?_
                refine ro_S S hkx (mL_low l (v := w) (k := 600) (h0 := (by omega)) (hk := (by omega))) gL_change_L_low rfl idL_low.2 ⟨Nat.le_of_ble_eq_true rfl, Nat.le_of_ble_eq_true rfl⟩ rfl hl.1 rfl (Nat.le_of_ble_eq_true rfl) dL_change_443 ⟨Nat.le_of_ble_eq_true rfl, Nat.le_of_ble_eq_true rfl⟩ (fun r9 hr9 => ?_)
                subst hr9
                refine W.eq (g2 := F0 m 446 ls [.int (nI (lowN w 600))]) rfl ?_
                refine lv_istore (lv' := [(10, .int (nI (lowN w 600))), (9, .int (nI (lowN w 200))), (8, .int (nI (chF N v))), (0, .ref (q 0)), (1, .int v), (2, .int w), (3, .int (nI (N 0))), (4, .int (nI (N 1))), (5, .int (nI (N 2))), (6, .int (nI (chU N v))), (7, .int (nI (chA N v)))]) hx hb dL_change_446 hl (by decide) rfl (fun ls hl => ?_)
                refine lv_iload_n hx hb dL_change_448 rfl (lv_at hl 6 rfl) ?_
                refine lv_if_le (tgt := 506) hx hb dL_change_449 (by decide) (fun c_49 => ?_) (fun c_49 => ?_)
                · replace c_49 := cn_le (a := (N 0)) (b := 0) (by omega) (by omega) c_49
                  refine lv_iconst (v := 0) hx hb dL_change_506 (by decide) ?_
                  have hv9 : chg N Z v w = (0, N, Z) := by rw [hg]; unfold ch9; rw [if_neg (by first | assumption | omega | exact (fun q9 => by first | omega | exact absurd q9.2 (by assumption) | exact absurd q9.2.1 (by assumption) | exact absurd q9.2.2 (by assumption)))]
                  exact hret _ H _ _ _ _ _ (show some (Value.int 0) = some (Value.int ((chg N Z v w).1)) ∧ wst G T q a (chg N Z v w).2.1 (chg N Z v w).2.2 b tx L cu er le nb nc H from ⟨by rw [hv9], by rw [hv9]; exact wst_id hsc hP⟩) rfl hS (Nat.le_of_ble_eq_true rfl) (Nat.le_of_ble_eq_true rfl) dL_change_507
                · replace c_49 := cn_nle (a := (N 0)) (b := 0) (by omega) (by omega) c_49
                  refine lv_iload hx hb dL_change_452 (lv_at hl 7 rfl) ?_
                  refine lv_if_le (tgt := 506) hx hb dL_change_454 (by decide) (fun c_50 => ?_) (fun c_50 => ?_)
                  · replace c_50 := cn_le (a := (N 1)) (b := 0) (by omega) (by omega) c_50
                    refine lv_iconst (v := 0) hx hb dL_change_506 (by decide) ?_
                    have hv9 : chg N Z v w = (0, N, Z) := by rw [hg]; unfold ch9; rw [if_neg (by first | assumption | omega | exact (fun q9 => by first | omega | exact absurd q9.2 (by assumption) | exact absurd q9.2.1 (by assumption) | exact absurd q9.2.2 (by assumption)))]
                    exact hret _ H _ _ _ _ _ (show some (Value.int 0) = some (Value.int ((chg N Z v w).1)) ∧ wst G T q a (chg N Z v w).2.1 (chg N Z v w).2.2 b tx L cu er le nb nc H from ⟨by rw [hv9], by rw [hv9]; exact wst_id hsc hP⟩) rfl hS (Nat.le_of_ble_eq_true rfl) (Nat.le_of_ble_eq_true rfl) dL_change_507
                  · replace c_50 := cn_nle (a := (N 1)) (b := 0) (by omega) (by omega) c_50
                    refine lv_aload_n hx hb dL_change_457 rfl (lv_at hl 3 rfl) ?_
                    refine lv_iconst (v := 3) hx hb dL_change_458 (by decide) ?_
                    refine rn_V S hkx hth (nX5_value l hl0 (sa := sa) (h9 := (fun q h => hA q (Nat.le_trans hS.1 h))) (hP := hP) (hwf := hwf) (hw := (by omega)) (w := 3)) gL_change_X5_value rfl idX5_value ⟨Nat.le_of_ble_eq_true rfl, Nat.le_of_ble_eq_true rfl⟩ hP 0 rfl rfl rfl rfl hl.1 rfl (Nat.le_of_ble_eq_true rfl) dL_change_459 ⟨Nat.le_of_ble_eq_true rfl, Nat.le_of_ble_eq_true rfl⟩ (fun v9 hv9 => ?_)
                    subst hv9
                    refine W.eq (g2 := F0 m 462 ls [.int (nI (N 3))]) rfl ?_
                    refine lv_bipush (v := 6) hx hb dL_change_462 (by decide) ?_
                    refine lv_icmp_ge (tgt := 506) hx hb dL_change_464 (by decide) (fun c_51 => ?_) (fun c_51 => ?_)
                    · replace c_51 := cn_le (a := 6) (b := (N 3)) (by omega) (by omega) c_51
                      refine lv_iconst (v := 0) hx hb dL_change_506 (by decide) ?_
                      have hv9 : chg N Z v w = (0, N, Z) := by rw [hg]; unfold ch9; rw [if_neg (by first | assumption | omega | exact (fun q9 => by first | omega | exact absurd q9.2 (by assumption) | exact absurd q9.2.1 (by assumption) | exact absurd q9.2.2 (by assumption)))]
                      exact hret _ H _ _ _ _ _ (show some (Value.int 0) = some (Value.int ((chg N Z v w).1)) ∧ wst G T q a (chg N Z v w).2.1 (chg N Z v w).2.2 b tx L cu er le nb nc H from ⟨by rw [hv9], by rw [hv9]; exact wst_id hsc hP⟩) rfl hS (Nat.le_of_ble_eq_true rfl) (Nat.le_of_ble_eq_true rfl) dL_change_507
                    · replace c_51 := cn_nle (a := 6) (b := (N 3)) (by omega) (by omega) c_51
                      refine lv_aload_n hx hb dL_change_467 rfl (lv_at hl 3 rfl) ?_
                      refine lv_iload hx hb dL_change_468 (lv_at hl 2 rfl) ?_
                      refine lv_iload hx hb dL_change_470 (lv_at hl 10 rfl) ?_
                      refine lv_iload hx hb dL_change_472 (lv_at hl 0 rfl) ?_
                      refine lv_iload hx hb dL_change_474 (lv_at hl 0 rfl) ?_
                      refine lv_iload_n hx hb dL_change_476 rfl (lv_at hl 5 rfl) ?_
                      refine lv_bipush (v := 10) hx hb dL_change_477 (by decide) ?_
                      refine lv_ishr hx hb dL_change_479 ?_
                      refine lv_sipush (v := 1000) hx hb dL_change_480 (by decide) ?_
                      refine lv_iload hx hb dL_change_483 (lv_at hl 0 rfl) ?_
                      refine lv_isub hx hb dL_change_485 ?_
                      refine W.eq (g2 := F0 m 486 ls [.int (nI (1000 - (lowN w 600))), .int (w >>> (10 &&& 31)), .int (nI (lowN w 600)), .int (nI (lowN w 600)), .int (nI (chA N v)), .int (nI (chF N v)), .ref (q 0)]) (congrArg (fun z9 => F0 m 486 ls (.int z9 :: [.int (w >>> (10 &&& 31)), .int (nI (lowN w 600)), .int (nI (lowN w 600)), .int (nI (chA N v)), .int (nI (chF N v)), .ref (q 0)])) (pk_sub (a := 1000) (b := (lowN w 600)) (by omega))) ?_
                      refine ro_S S hkx (mL_low l (v := (w >>> (10 &&& 31))) (k := (1000 - (lowN w 600))) (h0 := (by omega)) (hk := (by omega))) gL_change_L_low rfl idL_low.2 ⟨Nat.le_of_ble_eq_true rfl, Nat.le_of_ble_eq_true rfl⟩ rfl hl.1 rfl (Nat.le_of_ble_eq_true rfl) dL_change_486 ⟨Nat.le_of_ble_eq_true rfl, Nat.le_of_ble_eq_true rfl⟩ (fun r9 hr9 => ?_)
                      subst hr9
                      refine W.eq (g2 := F0 m 489 ls [.int (nI (lowN (w >>> (10 &&& 31)) (1000 - (lowN w 600)))), .int (nI (lowN w 600)), .int (nI (lowN w 600)), .int (nI (chA N v)), .int (nI (chF N v)), .ref (q 0)]) rfl ?_
                      refine lv_iadd hx hb dL_change_489 ?_
                      refine W.eq (g2 := F0 m 490 ls [.int (nI ((lowN w 600) + (lowN (w >>> (10 &&& 31)) (1000 - (lowN w 600))))), .int (nI (lowN w 600)), .int (nI (chA N v)), .int (nI (chF N v)), .ref (q 0)]) (congrArg (fun z9 => F0 m 490 ls (.int z9 :: [.int (nI (lowN w 600)), .int (nI (chA N v)), .int (nI (chF N v)), .ref (q 0)])) (nI_add _ _)) ?_
                      refine lv_iconst (v := 1) hx hb dL_change_490 (by decide) ?_
                      refine lv_iload_n hx hb dL_change_491 rfl (lv_at hl 5 rfl) ?_
                      refine lv_iconst (v := 4) hx hb dL_change_492 (by decide) ?_
                      refine lv_ishr hx hb dL_change_493 ?_
                      refine lv_bipush (v := 99) hx hb dL_change_494 (by decide) ?_
                      refine ro_S S hkx (mL_low l (v := (w >>> (4 &&& 31))) (k := 99) (h0 := (by omega)) (hk := (by omega))) gL_change_L_low rfl idL_low.2 ⟨Nat.le_of_ble_eq_true rfl, Nat.le_of_ble_eq_true rfl⟩ rfl hl.1 rfl (Nat.le_of_ble_eq_true rfl) dL_change_496 ⟨Nat.le_of_ble_eq_true rfl, Nat.le_of_ble_eq_true rfl⟩ (fun r9 hr9 => ?_)
                      subst hr9
                      refine W.eq (g2 := F0 m 499 ls [.int (nI (lowN (w >>> (4 &&& 31)) 99)), .int 1, .int (nI ((lowN w 600) + (lowN (w >>> (10 &&& 31)) (1000 - (lowN w 600))))), .int (nI (lowN w 600)), .int (nI (chA N v)), .int (nI (chF N v)), .ref (q 0)]) rfl ?_
                      refine lv_iadd hx hb dL_change_499 ?_
                      refine W.eq (g2 := F0 m 500 ls [.int (nI (1 + (lowN (w >>> (4 &&& 31)) 99))), .int (nI ((lowN w 600) + (lowN (w >>> (10 &&& 31)) (1000 - (lowN w 600))))), .int (nI (lowN w 600)), .int (nI (chA N v)), .int (nI (chF N v)), .ref (q 0)]) (congrArg (fun z9 => F0 m 500 ls (.int z9 :: [.int (nI ((lowN w 600) + (lowN (w >>> (10 &&& 31)) (1000 - (lowN w 600))))), .int (nI (lowN w 600)), .int (nI (chA N v)), .int (nI (chF N v)), .ref (q 0)])) (nI_add 1 _)) ?_
                      refine wn_V S hkx hth (nX5_addShim l hl0 (sa := sa) (A9 := A) (h9 := (fun q h => hA q (Nat.le_trans hS.1 h))) (hP := hP) (hD := hD.weaken (fun _ _ _ _ => trivial)) (hwf := hwf) (hsc := (by omega)) (hf := (chF_lt (by omega))) (hv := (chA_lt (by omega))) (hx := (by omega)) (hz := (by omega)) (hy1 := (by omega)) (hy := (by omega)) (h8 := (by omega)) (f := (chF N v)) (v := (chA N v)) (x := (lowN w 600)) (z := ((lowN w 600) + (lowN (w >>> (10 &&& 31)) (1000 - (lowN w 600))))) (y := (1 + (lowN (w >>> (4 &&& 31)) 99)))) gL_change_X5_addShim rfl idX5_addShim ⟨Nat.le_of_ble_eq_true rfl, Nat.le_of_ble_eq_true rfl⟩ hP 0 rfl rfl rfl rfl hl.1 rfl (Nat.le_of_ble_eq_true rfl) dL_change_500 ⟨Nat.le_of_ble_eq_true rfl, Nat.le_of_ble_eq_true rfl⟩ hS (fr_in hD (fun q h => hA q (Nat.le_trans hS.1 h))) (fun v9 H locs hp9 hz1 hk1 hS => ?_)
                      obtain ⟨rfl, hP⟩ := hp9
                      have hP : va_P G vwCl (wMain T q a (va_up N 3 (N 3 + 1)) (sAdd N Z (nI (chF N v)) (nI (chA N v)) (nI (lowN w 600)) (nI ((lowN w 600) + (lowN (w >>> (10 &&& 31)) (1000 - (lowN w 600))))) (nI (1 + (lowN (w >>> (4 &&& 31)) 99)))) (svB sc b) (psh sc M N) (psh sc Y Z) (svC sc) tx L cu er le nb nc) H := hP
                      have hD : va_D A (wMain T q a (va_up N 3 (N 3 + 1)) (sAdd N Z (nI (chF N v)) (nI (chA N v)) (nI (lowN w 600)) (nI ((lowN w 600) + (lowN (w >>> (10 &&& 31)) (1000 - (lowN w 600))))) (nI (1 + (lowN (w >>> (4 &&& 31)) 99)))) (svB sc b) (psh sc M N) (psh sc Y Z) (svC sc) tx L cu er le nb nc) := D_perm hD sv_addr
                      have hth := hth0.kept hS.2.1
                      refine W.eq (g2 := F0 m 503 ls [.int (nI (N 3))]) rfl ?_
                      refine lv_goto (tgt := 507) hx hb dL_change_503 (by decide) ?_
                      have hv9 : chg N Z v w = ((nI (N 3)), (va_up N 3 (N 3 + 1)), (sAdd N Z (nI (chF N v)) (nI (chA N v)) (nI (lowN w 600)) (nI ((lowN w 600) + (lowN (w >>> (10 &&& 31)) (1000 - (lowN w 600))))) (nI (1 + (lowN (w >>> (4 &&& 31)) 99))))) := by rw [hg]; unfold ch9; rw [if_pos (by first | assumption | omega | exact ⟨by first | assumption | omega, by first | assumption | omega⟩ | exact ⟨by first | assumption | omega, by first | assumption | omega, by first | assumption | omega⟩)]
                      exact hret _ H _ _ _ _ _ (show some (Value.int (nI (N 3))) = some (Value.int ((chg N Z v w).1)) ∧ wst G T q a (chg N Z v w).2.1 (chg N Z v w).2.2 b tx L cu er le nb nc H from ⟨by rw [hv9], by rw [hv9]; exact wst_sv hsc hP⟩) rfl hS (Nat.le_of_ble_eq_true rfl) (Nat.le_of_ble_eq_true rfl) dL_change_507
              · refine lv_tableIn (off := 347) (tgt := 439) hx hb dL_change_92 (by decide) (by decide) rfl (by decide) ?_
                have hg : chg N Z v w = ch9 N Z v w := by unfold chg; rw [hcz]; rfl
                refine lv_iload_n hx hb dL_change_439 rfl (lv_at hl 4 rfl) ?_
                refine lv_sipush (v := 600) hx hb dL_change_440 (by decide) ?_
                refine ro_S S hkx (mL_low l (v := w) (k := 600) (h0 := (by omega)) (hk := (by omega))) gL_change_L_low rfl idL_low.2 ⟨Nat.le_of_ble_eq_true rfl, Nat.le_of_ble_eq_true rfl⟩ rfl hl.1 rfl (Nat.le_of_ble_eq_true rfl) dL_change_443 ⟨Nat.le_of_ble_eq_true rfl, Nat.le_of_ble_eq_true rfl⟩ (fun r9 hr9 => ?_)
                subst hr9
                refine W.eq (g2 := F0 m 446 ls [.int (nI (lowN w 600))]) rfl ?_
                refine lv_istore (lv' := [(10, .int (nI (lowN w 600))), (9, .int (nI (lowN w 200))), (8, .int (nI (chF N v))), (0, .ref (q 0)), (1, .int v), (2, .int w), (3, .int (nI (N 0))), (4, .int (nI (N 1))), (5, .int (nI (N 2))), (6, .int (nI (chU N v))), (7, .int (nI (chA N v)))]) hx hb dL_change_446 hl (by decide) rfl (fun ls hl => ?_)
                refine lv_iload_n hx hb dL_change_448 rfl (lv_at hl 6 rfl) ?_
                refine lv_if_le (tgt := 506) hx hb dL_change_449 (by decide) (fun c_52 => ?_) (fun c_52 => ?_)
                · replace c_52 := cn_le (a := (N 0)) (b := 0) (by omega) (by omega) c_52
                  refine lv_iconst (v := 0) hx hb dL_change_506 (by decide) ?_
                  have hv9 : chg N Z v w = (0, N, Z) := by rw [hg]; unfold ch9; rw [if_neg (by first | assumption | omega | exact (fun q9 => by first | omega | exact absurd q9.2 (by assumption) | exact absurd q9.2.1 (by assumption) | exact absurd q9.2.2 (by assumption)))]
                  exact hret _ H _ _ _ _ _ (show some (Value.int 0) = some (Value.int ((chg N Z v w).1)) ∧ wst G T q a (chg N Z v w).2.1 (chg N Z v w).2.2 b tx L cu er le nb nc H from ⟨by rw [hv9], by rw [hv9]; exact wst_id hsc hP⟩) rfl hS (Nat.le_of_ble_eq_true rfl) (Nat.le_of_ble_eq_true rfl) dL_change_507
                · replace c_52 := cn_nle (a := (N 0)) (b := 0) (by omega) (by omega) c_52
                  refine lv_iload hx hb dL_change_452 (lv_at hl 7 rfl) ?_
                  refine lv_if_le (tgt := 506) hx hb dL_change_454 (by decide) (fun c_53 => ?_) (fun c_53 => ?_)
                  · replace c_53 := cn_le (a := (N 1)) (b := 0) (by omega) (by omega) c_53
                    refine lv_iconst (v := 0) hx hb dL_change_506 (by decide) ?_
                    have hv9 : chg N Z v w = (0, N, Z) := by rw [hg]; unfold ch9; rw [if_neg (by first | assumption | omega | exact (fun q9 => by first | omega | exact absurd q9.2 (by assumption) | exact absurd q9.2.1 (by assumption) | exact absurd q9.2.2 (by assumption)))]
                    exact hret _ H _ _ _ _ _ (show some (Value.int 0) = some (Value.int ((chg N Z v w).1)) ∧ wst G T q a (chg N Z v w).2.1 (chg N Z v w).2.2 b tx L cu er le nb nc H from ⟨by rw [hv9], by rw [hv9]; exact wst_id hsc hP⟩) rfl hS (Nat.le_of_ble_eq_true rfl) (Nat.le_of_ble_eq_true rfl) dL_change_507
                  · replace c_53 := cn_nle (a := (N 1)) (b := 0) (by omega) (by omega) c_53
                    refine lv_aload_n hx hb dL_change_457 rfl (lv_at hl 3 rfl) ?_
                    refine lv_iconst (v := 3) hx hb dL_change_458 (by decide) ?_
                    refine rn_V S hkx hth (nX5_value l hl0 (sa := sa) (h9 := (fun q h => hA q (Nat.le_trans hS.1 h))) (hP := hP) (hwf := hwf) (hw := (by omega)) (w := 3)) gL_change_X5_value rfl idX5_value ⟨Nat.le_of_ble_eq_true rfl, Nat.le_of_ble_eq_true rfl⟩ hP 0 rfl rfl rfl rfl hl.1 rfl (Nat.le_of_ble_eq_true rfl) dL_change_459 ⟨Nat.le_of_ble_eq_true rfl, Nat.le_of_ble_eq_true rfl⟩ (fun v9 hv9 => ?_)
                    subst hv9
                    refine W.eq (g2 := F0 m 462 ls [.int (nI (N 3))]) rfl ?_
                    refine lv_bipush (v := 6) hx hb dL_change_462 (by decide) ?_
                    refine lv_icmp_ge (tgt := 506) hx hb dL_change_464 (by decide) (fun c_54 => ?_) (fun c_54 => ?_)
                    · replace c_54 := cn_le (a := 6) (b := (N 3)) (by omega) (by omega) c_54
                      refine lv_iconst (v := 0) hx hb dL_change_506 (by decide) ?_
                      have hv9 : chg N Z v w = (0, N, Z) := by rw [hg]; unfold ch9; rw [if_neg (by first | assumption | omega | exact (fun q9 => by first | omega | exact absurd q9.2 (by assumption) | exact absurd q9.2.1 (by assumption) | exact absurd q9.2.2 (by assumption)))]
                      exact hret _ H _ _ _ _ _ (show some (Value.int 0) = some (Value.int ((chg N Z v w).1)) ∧ wst G T q a (chg N Z v w).2.1 (chg N Z v w).2.2 b tx L cu er le nb nc H from ⟨by rw [hv9], by rw [hv9]; exact wst_id hsc hP⟩) rfl hS (Nat.le_of_ble_eq_true rfl) (Nat.le_of_ble_eq_true rfl) dL_change_507
                    · replace c_54 := cn_nle (a := 6) (b := (N 3)) (by omega) (by omega) c_54
                      refine lv_aload_n hx hb dL_change_467 rfl (lv_at hl 3 rfl) ?_
                      refine lv_iload hx hb dL_change_468 (lv_at hl 2 rfl) ?_
                      refine lv_iload hx hb dL_change_470 (lv_at hl 10 rfl) ?_
                      refine lv_iload hx hb dL_change_472 (lv_at hl 0 rfl) ?_
                      refine lv_iload hx hb dL_change_474 (lv_at hl 0 rfl) ?_
                      refine lv_iload_n hx hb dL_change_476 rfl (lv_at hl 5 rfl) ?_
                      refine lv_bipush (v := 10) hx hb dL_change_477 (by decide) ?_
                      refine lv_ishr hx hb dL_change_479 ?_
                      refine lv_sipush (v := 1000) hx hb dL_change_480 (by decide) ?_
                      refine lv_iload hx hb dL_change_483 (lv_at hl 0 rfl) ?_
                      refine lv_isub hx hb dL_change_485 ?_
                      refine W.eq (g2 := F0 m 486 ls [.int (nI (1000 - (lowN w 600))), .int (w >>> (10 &&& 31)), .int (nI (lowN w 600)), .int (nI (lowN w 600)), .int (nI (chA N v)), .int (nI (chF N v)), .ref (q 0)]) (congrArg (fun z9 => F0 m 486 ls (.int z9 :: [.int (w >>> (10 &&& 31)), .int (nI (lowN w 600)), .int (nI (lowN w 600)), .int (nI (chA N v)), .int (nI (chF N v)), .ref (q 0)])) (pk_sub (a := 1000) (b := (lowN w 600)) (by omega))) ?_
                      refine ro_S S hkx (mL_low l (v := (w >>> (10 &&& 31))) (k := (1000 - (lowN w 600))) (h0 := (by omega)) (hk := (by omega))) gL_change_L_low rfl idL_low.2 ⟨Nat.le_of_ble_eq_true rfl, Nat.le_of_ble_eq_true rfl⟩ rfl hl.1 rfl (Nat.le_of_ble_eq_true rfl) dL_change_486 ⟨Nat.le_of_ble_eq_true rfl, Nat.le_of_ble_eq_true rfl⟩ (fun r9 hr9 => ?_)
                      subst hr9
                      refine W.eq (g2 := F0 m 489 ls [.int (nI (lowN (w >>> (10 &&& 31)) (1000 - (lowN w 600)))), .int (nI (lowN w 600)), .int (nI (lowN w 600)), .int (nI (chA N v)), .int (nI (chF N v)), .ref (q 0)]) rfl ?_
                      refine lv_iadd hx hb dL_change_489 ?_
                      refine W.eq (g2 := F0 m 490 ls [.int (nI ((lowN w 600) + (lowN (w >>> (10 &&& 31)) (1000 - (lowN w 600))))), .int (nI (lowN w 600)), .int (nI (chA N v)), .int (nI (chF N v)), .ref (q 0)]) (congrArg (fun z9 => F0 m 490 ls (.int z9 :: [.int (nI (lowN w 600)), .int (nI (chA N v)), .int (nI (chF N v)), .ref (q 0)])) (nI_add _ _)) ?_
                      refine lv_iconst (v := 1) hx hb dL_change_490 (by decide) ?_
                      refine lv_iload_n hx hb dL_change_491 rfl (lv_at hl 5 rfl) ?_
                      refine lv_iconst (v := 4) hx hb dL_change_492 (by decide) ?_
                      refine lv_ishr hx hb dL_change_493 ?_
                      refine lv_bipush (v := 99) hx hb dL_change_494 (by decide) ?_
                      refine ro_S S hkx (mL_low l (v := (w >>> (4 &&& 31))) (k := 99) (h0 := (by omega)) (hk := (by omega))) gL_change_L_low rfl idL_low.2 ⟨Nat.le_of_ble_eq_true rfl, Nat.le_of_ble_eq_true rfl⟩ rfl hl.1 rfl (Nat.le_of_ble_eq_true rfl) dL_change_496 ⟨Nat.le_of_ble_eq_true rfl, Nat.le_of_ble_eq_true rfl⟩ (fun r9 hr9 => ?_)
                      subst hr9
                      refine W.eq (g2 := F0 m 499 ls [.int (nI (lowN (w >>> (4 &&& 31)) 99)), .int 1, .int (nI ((lowN w 600) + (lowN (w >>> (10 &&& 31)) (1000 - (lowN w 600))))), .int (nI (lowN w 600)), .int (nI (chA N v)), .int (nI (chF N v)), .ref (q 0)]) rfl ?_
                      refine lv_iadd hx hb dL_change_499 ?_
                      refine W.eq (g2 := F0 m 500 ls [.int (nI (1 + (lowN (w >>> (4 &&& 31)) 99))), .int (nI ((lowN w 600) + (lowN (w >>> (10 &&& 31)) (1000 - (lowN w 600))))), .int (nI (lowN w 600)), .int (nI (chA N v)), .int (nI (chF N v)), .ref (q 0)]) (congrArg (fun z9 => F0 m 500 ls (.int z9 :: [.int (nI ((lowN w 600) + (lowN (w >>> (10 &&& 31)) (1000 - (lowN w 600))))), .int (nI (lowN w 600)), .int (nI (chA N v)), .int (nI (chF N v)), .ref (q 0)])) (nI_add 1 _)) ?_
                      refine wn_V S hkx hth (nX5_addShim l hl0 (sa := sa) (A9 := A) (h9 := (fun q h => hA q (Nat.le_trans hS.1 h))) (hP := hP) (hD := hD.weaken (fun _ _ _ _ => trivial)) (hwf := hwf) (hsc := (by omega)) (hf := (chF_lt (by omega))) (hv := (chA_lt (by omega))) (hx := (by omega)) (hz := (by omega)) (hy1 := (by omega)) (hy := (by omega)) (h8 := (by omega)) (f := (chF N v)) (v := (chA N v)) (x := (lowN w 600)) (z := ((lowN w 600) + (lowN (w >>> (10 &&& 31)) (1000 - (lowN w 600))))) (y := (1 + (lowN (w >>> (4 &&& 31)) 99)))) gL_change_X5_addShim rfl idX5_addShim ⟨Nat.le_of_ble_eq_true rfl, Nat.le_of_ble_eq_true rfl⟩ hP 0 rfl rfl rfl rfl hl.1 rfl (Nat.le_of_ble_eq_true rfl) dL_change_500 ⟨Nat.le_of_ble_eq_true rfl, Nat.le_of_ble_eq_true rfl⟩ hS (fr_in hD (fun q h => hA q (Nat.le_trans hS.1 h))) (fun v9 H locs hp9 hz1 hk1 hS => ?_)
                      obtain ⟨rfl, hP⟩ := hp9
                      have hP : va_P G vwCl (wMain T q a (va_up N 3 (N 3 + 1)) (sAdd N Z (nI (chF N v)) (nI (chA N v)) (nI (lowN w 600)) (nI ((lowN w 600) + (lowN (w >>> (10 &&& 31)) (1000 - (lowN w 600))))) (nI (1 + (lowN (w >>> (4 &&& 31)) 99)))) (svB sc b) (psh sc M N) (psh sc Y Z) (svC sc) tx L cu er le nb nc) H := hP
                      have hD : va_D A (wMain T q a (va_up N 3 (N 3 + 1)) (sAdd N Z (nI (chF N v)) (nI (chA N v)) (nI (lowN w 600)) (nI ((lowN w 600) + (lowN (w >>> (10 &&& 31)) (1000 - (lowN w 600))))) (nI (1 + (lowN (w >>> (4 &&& 31)) 99)))) (svB sc b) (psh sc M N) (psh sc Y Z) (svC sc) tx L cu er le nb nc) := D_perm hD sv_addr
                      have hth := hth0.kept hS.2.1
                      refine W.eq (g2 := F0 m 503 ls [.int (nI (N 3))]) rfl ?_
                      refine lv_goto (tgt := 507) hx hb dL_change_503 (by decide) ?_
                      have hv9 : chg N Z v w = ((nI (N 3)), (va_up N 3 (N 3 + 1)), (sAdd N Z (nI (chF N v)) (nI (chA N v)) (nI (lowN w 600)) (nI ((lowN w 600) + (lowN (w >>> (10 &&& 31)) (1000 - (lowN w 600))))) (nI (1 + (lowN (w >>> (4 &&& 31)) 99))))) := by rw [hg]; unfold ch9; rw [if_pos (by first | assumption | omega | exact ⟨by first | assumption | omega, by first | assumption | omega⟩ | exact ⟨by first | assumption | omega, by first | assumption | omega, by first | assumption | omega⟩)]
                      exact hret _ H _ _ _ _ _ (show some (Value.int (nI (N 3))) = some (Value.int ((chg N Z v w).1)) ∧ wst G T q a (chg N Z v w).2.1 (chg N Z v w).2.2 b tx L cu er le nb nc H from ⟨by rw [hv9], by rw [hv9]; exact wst_sv hsc hP⟩) rfl hS (Nat.le_of_ble_eq_true rfl) (Nat.le_of_ble_eq_true rfl) dL_change_507
              · refine lv_tableOut (tgt := 508) hx hb dL_change_92 (Or.inr (by decide)) (by decide) ?_
                have hg : chg N Z v w = chB N Z w := by unfold chg; rw [hcz]; rfl
                refine lv_aload_n hx hb dL_change_508 rfl (lv_at hl 2 rfl) ?_
                refine lv_iconst (v := 3) hx hb dL_change_509 (by decide) ?_
                refine rn_V S hkx hth (nX5_value l hl0 (sa := sa) (h9 := (fun q h => hA q (Nat.le_trans hS.1 h))) (hP := hP) (hwf := hwf) (hw := (by omega)) (w := 3)) gL_change_X5_value rfl idX5_value ⟨Nat.le_of_ble_eq_true rfl, Nat.le_of_ble_eq_true rfl⟩ hP 0 rfl rfl rfl rfl hl.1 rfl (Nat.le_of_ble_eq_true rfl) dL_change_510 ⟨Nat.le_of_ble_eq_true rfl, Nat.le_of_ble_eq_true rfl⟩ (fun v9 hv9 => ?_)
                subst hv9
                refine W.eq (g2 := F0 m 513 ls [.int (nI (N 3))]) rfl ?_
                refine lv_if_le (tgt := 532) hx hb dL_change_513 (by decide) (fun c_55 => ?_) (fun c_55 => ?_)
                · replace c_55 := cn_le (a := (N 3)) (b := 0) (by omega) (by omega) c_55
                  refine lv_iconst (v := 0) hx hb dL_change_532 (by decide) ?_
                  have hv9 : chg N Z v w = (0, N, Z) := by rw [hg]; unfold chB; rw [if_neg (by first | assumption | omega | exact (fun q9 => by first | omega | exact absurd q9.2 (by assumption) | exact absurd q9.2.1 (by assumption) | exact absurd q9.2.2 (by assumption)))]
                  exact hret _ H _ _ _ _ _ (show some (Value.int 0) = some (Value.int ((chg N Z v w).1)) ∧ wst G T q a (chg N Z v w).2.1 (chg N Z v w).2.2 b tx L cu er le nb nc H from ⟨by rw [hv9], by rw [hv9]; exact wst_id hsc hP⟩) rfl hS (Nat.le_of_ble_eq_true rfl) (Nat.le_of_ble_eq_true rfl) dL_change_533
                · replace c_55 := cn_nle (a := (N 3)) (b := 0) (by omega) (by omega) c_55
                  refine lv_aload_n hx hb dL_change_516 rfl (lv_at hl 2 rfl) ?_
                  refine lv_iload_n hx hb dL_change_517 rfl (lv_at hl 4 rfl) ?_
                  refine lv_aload_n hx hb dL_change_518 rfl (lv_at hl 2 rfl) ?_
                  refine lv_iconst (v := 3) hx hb dL_change_519 (by decide) ?_
                  refine rn_V S hkx hth (nX5_value l hl0 (sa := sa) (h9 := (fun q h => hA q (Nat.le_trans hS.1 h))) (hP := hP) (hwf := hwf) (hw := (by omega)) (w := 3)) gL_change_X5_value rfl idX5_value ⟨Nat.le_of_ble_eq_true rfl, Nat.le_of_ble_eq_true rfl⟩ hP 0 rfl rfl rfl rfl hl.1 rfl (Nat.le_of_ble_eq_true rfl) dL_change_520 ⟨Nat.le_of_ble_eq_true rfl, Nat.le_of_ble_eq_true rfl⟩ (fun v9 hv9 => ?_)
                  subst hv9
                  refine W.eq (g2 := F0 m 523 ls [.int (nI (N 3)), .int w, .ref (q 0)]) rfl ?_
                  refine ro_S S hkx (mL_low l (v := w) (k := (N 3)) (h0 := (by omega)) (hk := (by omega))) gL_change_L_low rfl idL_low.2 ⟨Nat.le_of_ble_eq_true rfl, Nat.le_of_ble_eq_true rfl⟩ rfl hl.1 rfl (Nat.le_of_ble_eq_true rfl) dL_change_523 ⟨Nat.le_of_ble_eq_true rfl, Nat.le_of_ble_eq_true rfl⟩ (fun r9 hr9 => ?_)
                  subst hr9
                  refine W.eq (g2 := F0 m 526 ls [.int (nI (lowN w (N 3))), .ref (q 0)]) rfl ?_
                  refine wn_V S hkx hth (nX5_dropShim l hl0 (sa := sa) (A9 := A) (h9 := (fun q h => hA q (Nat.le_trans hS.1 h))) (hP := hP) (hD := hD.weaken (fun _ _ _ _ => trivial)) (hwf := hwf) (hsc := (by omega)) (ht := (lowN_lt w (by omega))) (t := (lowN w (N 3)))) gL_change_X5_dropShim rfl idX5_dropShim ⟨Nat.le_of_ble_eq_true rfl, Nat.le_of_ble_eq_true rfl⟩ hP 0 rfl rfl rfl rfl hl.1 rfl (Nat.le_of_ble_eq_true rfl) dL_change_526 ⟨Nat.le_of_ble_eq_true rfl, Nat.le_of_ble_eq_true rfl⟩ hS (fr_in hD (fun q h => hA q (Nat.le_trans hS.1 h))) (fun v9 H locs hp9 hz1 hk1 hS => ?_)
                  obtain ⟨rfl, hP⟩ := hp9
                  have hP : va_P G vwCl (wMain T q a (va_up N 3 (N 3 - 1)) (sDel Z (lowN w (N 3)) (N 3 - 1)) (svB sc b) (psh sc M N) (psh sc Y Z) (svC sc) tx L cu er le nb nc) H := hP
                  have hD : va_D A (wMain T q a (va_up N 3 (N 3 - 1)) (sDel Z (lowN w (N 3)) (N 3 - 1)) (svB sc b) (psh sc M N) (psh sc Y Z) (svC sc) tx L cu er le nb nc) := D_perm hD sv_addr
                  have hth := hth0.kept hS.2.1
                  refine W.eq (g2 := F0 m 529 ls [.int (nI (N 3 - 1))]) rfl ?_
                  refine lv_goto (tgt := 533) hx hb dL_change_529 (by decide) ?_
                  have hv9 : chg N Z v w = ((nI (N 3 - 1)), (va_up N 3 (N 3 - 1)), (sDel Z (lowN w (N 3)) (N 3 - 1))) := by rw [hg]; unfold chB; rw [if_pos (by first | assumption | omega | exact ⟨by first | assumption | omega, by first | assumption | omega⟩ | exact ⟨by first | assumption | omega, by first | assumption | omega, by first | assumption | omega⟩)]
                  exact hret _ H _ _ _ _ _ (show some (Value.int (nI (N 3 - 1))) = some (Value.int ((chg N Z v w).1)) ∧ wst G T q a (chg N Z v w).2.1 (chg N Z v w).2.2 b tx L cu er le nb nc H from ⟨by rw [hv9], by rw [hv9]; exact wst_sv hsc hP⟩) rfl hS (Nat.le_of_ble_eq_true rfl) (Nat.le_of_ble_eq_true rfl) dL_change_533
            exact L75   _ _ hP hD hS _ (lv_sub hl [1, 2, 3, 4, 5, 6, 7, 0] rfl)
        exact L55   _ _ hP hD hS _ (lv_sub hl [1, 2, 3, 4, 5, 6, 0] rfl)
      · replace c_2 := cn_eq (a := (N 0)) (b := 0) (by omega) (by omega) c_2
        refine lv_iconst (v := 0) hx hb dL_change_43 (by decide) ?_
        refine lv_goto (tgt := 55) hx hb dL_change_44 (by decide) ?_
        refine W.eq (g2 := F0 m 55 ls [.int (nI (chA N v))]) (congrArg (fun z9 => F0 m 55 ls (.int z9 :: [])) (by unfold chA; rw [if_pos c_2]; rfl)) ?_
        have L55 :  ∀ (H : Heap) (locs : List Loc), va_P G vwCl (wMain T q a N Z b M Y sc tx L cu er le nb nc) H → va_D A (wMain T q a N Z b M Y sc tx L cu er le nb nc) → va_S A H0 H locs → ∀ ls : Array Slot, lv_has ls 11 [(0, .ref (q 0)), (1, .int v), (2, .int w), (3, .int (nI (N 0))), (4, .int (nI (N 1))), (5, .int (nI (N 2))), (6, .int (nI (chU N v)))] → W p l e (rmx 9 180 3) s m ([.ref (q 0), .int v, .int w] : List Value).toArray below meth c H locs 0 0 Q (F0 m 55 ls [.int (nI (chA N v))]) := by
          intro   H locs hP hD hS ls hl
          have hth := hth0.kept hS.2.1
          refine lv_istore (lv' := [(7, .int (nI (chA N v))), (0, .ref (q 0)), (1, .int v), (2, .int w), (3, .int (nI (N 0))), (4, .int (nI (N 1))), (5, .int (nI (N 2))), (6, .int (nI (chU N v)))]) hx hb dL_change_55 hl (by decide) rfl (fun ls hl => ?_)
          refine lv_iload hx hb dL_change_57 (lv_at hl 5 rfl) ?_
          refine lv_if_ne (tgt := 66) hx hb dL_change_59 (by decide) (fun c_56 => ?_) (fun c_56 => ?_)
          · replace c_56 := cn_ne (a := (N 1)) (b := 0) (by omega) (by omega) c_56
            refine lv_iload_n hx hb dL_change_66 rfl (lv_at hl 2 rfl) ?_
            refine lv_bipush (v := 13) hx hb dL_change_67 (by decide) ?_
            refine lv_ishr hx hb dL_change_69 ?_
            refine lv_iload hx hb dL_change_70 (lv_at hl 5 rfl) ?_
            refine ro_S S hkx (mL_low l (v := (v >>> (13 &&& 31))) (k := (N 1)) (h0 := (by omega)) (hk := (by omega))) gL_change_L_low rfl idL_low.2 ⟨Nat.le_of_ble_eq_true rfl, Nat.le_of_ble_eq_true rfl⟩ rfl hl.1 rfl (Nat.le_of_ble_eq_true rfl) dL_change_72 ⟨Nat.le_of_ble_eq_true rfl, Nat.le_of_ble_eq_true rfl⟩ (fun r9 hr9 => ?_)
            subst hr9
            refine W.eq (g2 := F0 m 75 ls [.int (nI (lowN (v >>> (13 &&& 31)) (N 1)))]) rfl ?_
            refine W.eq (g2 := F0 m 75 ls [.int (nI (chF N v))]) (congrArg (fun z9 => F0 m 75 ls (.int z9 :: [])) (by unfold chF; rw [if_neg c_56])) ?_
            have L75 :  ∀ (H : Heap) (locs : List Loc), va_P G vwCl (wMain T q a N Z b M Y sc tx L cu er le nb nc) H → va_D A (wMain T q a N Z b M Y sc tx L cu er le nb nc) → va_S A H0 H locs → ∀ ls : Array Slot, lv_has ls 11 [(0, .ref (q 0)), (1, .int v), (2, .int w), (3, .int (nI (N 0))), (4, .int (nI (N 1))), (5, .int (nI (N 2))), (6, .int (nI (chU N v))), (7, .int (nI (chA N v)))] → W p l e (rmx 9 180 3) s m ([.ref (q 0), .int v, .int w] : List Value).toArray below meth c H locs 0 0 Q (F0 m 75 ls [.int (nI (chF N v))]) := by
              intro   H locs hP hD hS ls hl
              have hth := hth0.kept hS.2.1
              refine lv_istore (lv' := [(8, .int (nI (chF N v))), (0, .ref (q 0)), (1, .int v), (2, .int w), (3, .int (nI (N 0))), (4, .int (nI (N 1))), (5, .int (nI (N 2))), (6, .int (nI (chU N v))), (7, .int (nI (chA N v)))]) hx hb dL_change_75 hl (by decide) rfl (fun ls hl => ?_)
              refine lv_iload_n hx hb dL_change_77 rfl (lv_at hl 3 rfl) ?_
              refine lv_sipush (v := 200) hx hb dL_change_78 (by decide) ?_
              refine ro_S S hkx (mL_low l (v := w) (k := 200) (h0 := (by omega)) (hk := (by omega))) gL_change_L_low rfl idL_low.2 ⟨Nat.le_of_ble_eq_true rfl, Nat.le_of_ble_eq_true rfl⟩ rfl hl.1 rfl (Nat.le_of_ble_eq_true rfl) dL_change_81 ⟨Nat.le_of_ble_eq_true rfl, Nat.le_of_ble_eq_true rfl⟩ (fun r9 hr9 => ?_)
              subst hr9
              refine W.eq (g2 := F0 m 84 ls [.int (nI (lowN w 200))]) rfl ?_
              refine lv_istore (lv' := [(9, .int (nI (lowN w 200))), (8, .int (nI (chF N v))), (0, .ref (q 0)), (1, .int v), (2, .int w), (3, .int (nI (N 0))), (4, .int (nI (N 1))), (5, .int (nI (N 2))), (6, .int (nI (chU N v))), (7, .int (nI (chA N v)))]) hx hb dL_change_84 hl (by decide) rfl (fun ls hl => ?_)
              refine lv_iload_n hx hb dL_change_86 rfl (lv_at hl 3 rfl) ?_
              refine lv_bipush (v := 12) hx hb dL_change_87 (by decide) ?_
              refine ro_S S hkx (mL_low l (v := v) (k := 12) (h0 := (by omega)) (hk := (by omega))) gL_change_L_low rfl idL_low.2 ⟨Nat.le_of_ble_eq_true rfl, Nat.le_of_ble_eq_true rfl⟩ rfl hl.1 rfl (Nat.le_of_ble_eq_true rfl) dL_change_89 ⟨Nat.le_of_ble_eq_true rfl, Nat.le_of_ble_eq_true rfl⟩ (fun r9 hr9 => ?_)
              subst hr9
              refine W.eq (g2 := F0 m 92 ls [.int (nI (lowN v 12))]) rfl ?_
              obtain ⟨cz, hcz⟩ : ∃ cz, lowN v 12 = cz := ⟨_, rfl⟩
              have hcz12 : cz < 12 := hcz ▸ lowN_lt v (by decide)
              refine W.eq (g2 := F0 m 92 ls [.int (nI cz)]) (congrArg (fun z9 => F0 m 92 ls (.int z9 :: [])) (congrArg nI hcz)) ?_
              rcases (show cz = 0 ∨ cz = 1 ∨ cz = 2 ∨ cz = 3 ∨ cz = 4 ∨ cz = 5 ∨ cz = 6 ∨ cz = 7 ∨ cz = 8 ∨ cz = 9 ∨ cz = 10 ∨ cz = 11 by omega) with rfl | rfl | rfl | rfl | rfl | rfl | rfl | rfl | rfl | rfl | rfl | rfl
              · refine lv_tableIn (off := 60) (tgt := 152) hx hb dL_change_92 (by decide) (by decide) rfl (by decide) ?_
                have hg : chg N Z v w = ch0 N Z w := by unfold chg; rw [hcz]; rfl
                refine lv_iload_n hx hb dL_change_152 rfl (lv_at hl 5 rfl) ?_
                refine lv_iconst (v := 5) hx hb dL_change_153 (by decide) ?_
                refine lv_icmp_ge (tgt := 184) hx hb dL_change_154 (by decide) (fun c_57 => ?_) (fun c_57 => ?_)
                · replace c_57 := cn_le (a := 5) (b := (N 0)) (by omega) (by omega) c_57
                  refine lv_aload_n hx hb dL_change_184 rfl (lv_at hl 2 rfl) ?_
                  refine lv_iconst (v := 4) hx hb dL_change_185 (by decide) ?_
                  refine rn_V S hkx hth (nX5_value l hl0 (sa := sa) (h9 := (fun q h => hA q (Nat.le_trans hS.1 h))) (hP := hP) (hwf := hwf) (hw := (by omega)) (w := 4)) gL_change_X5_value rfl idX5_value ⟨Nat.le_of_ble_eq_true rfl, Nat.le_of_ble_eq_true rfl⟩ hP 0 rfl rfl rfl rfl hl.1 rfl (Nat.le_of_ble_eq_true rfl) dL_change_186 ⟨Nat.le_of_ble_eq_true rfl, Nat.le_of_ble_eq_true rfl⟩ (fun v9 hv9 => ?_)
                  subst hv9
                  refine W.eq (g2 := F0 m 189 ls [.int (plC Z (N 2))]) rfl ?_
                  have hv9 : chg N Z v w = ((plC Z (N 2)), N, Z) := by rw [hg]; unfold ch0; rw [if_neg (by first | assumption | omega | exact (fun q9 => by first | omega | exact absurd q9.2 (by assumption) | exact absurd q9.2.1 (by assumption) | exact absurd q9.2.2 (by assumption)))]
                  exact hret _ H _ _ _ _ _ (show some (Value.int (plC Z (N 2))) = some (Value.int ((chg N Z v w).1)) ∧ wst G T q a (chg N Z v w).2.1 (chg N Z v w).2.2 b tx L cu er le nb nc H from ⟨by rw [hv9], by rw [hv9]; exact wst_id hsc hP⟩) rfl hS (Nat.le_of_ble_eq_true rfl) (Nat.le_of_ble_eq_true rfl) dL_change_189
                · replace c_57 := cn_nle (a := 5) (b := (N 0)) (by omega) (by omega) c_57
                  refine lv_aload_n hx hb dL_change_157 rfl (lv_at hl 2 rfl) ?_
                  refine lv_iload hx hb dL_change_158 (lv_at hl 0 rfl) ?_
                  refine lv_iload hx hb dL_change_160 (lv_at hl 0 rfl) ?_
                  refine lv_iconst (v := 1) hx hb dL_change_162 (by decide) ?_
                  refine lv_iadd hx hb dL_change_163 ?_
                  refine W.eq (g2 := F0 m 164 ls [.int (nI ((lowN w 200) + 1)), .int (nI (lowN w 200)), .ref (q 0)]) (congrArg (fun z9 => F0 m 164 ls (.int z9 :: [.int (nI (lowN w 200)), .ref (q 0)])) (nI_add _ 1)) ?_
                  refine lv_iload_n hx hb dL_change_164 rfl (lv_at hl 4 rfl) ?_
                  refine lv_bipush (v := 8) hx hb dL_change_165 (by decide) ?_
                  refine lv_ishr hx hb dL_change_167 ?_
                  refine lv_sipush (v := 1000) hx hb dL_change_168 (by decide) ?_
                  refine lv_iload hx hb dL_change_171 (lv_at hl 0 rfl) ?_
                  refine lv_isub hx hb dL_change_173 ?_
                  refine W.eq (g2 := F0 m 174 ls [.int (nI (1000 - (lowN w 200))), .int (w >>> (8 &&& 31)), .int (nI ((lowN w 200) + 1)), .int (nI (lowN w 200)), .ref (q 0)]) (congrArg (fun z9 => F0 m 174 ls (.int z9 :: [.int (w >>> (8 &&& 31)), .int (nI ((lowN w 200) + 1)), .int (nI (lowN w 200)), .ref (q 0)])) (pk_sub (a := 1000) (b := (lowN w 200)) (by omega))) ?_
                  refine ro_S S hkx (mL_low l (v := (w >>> (8 &&& 31))) (k := (1000 - (lowN w 200))) (h0 := (by omega)) (hk := (by omega))) gL_change_L_low rfl idL_low.2 ⟨Nat.le_of_ble_eq_true rfl, Nat.le_of_ble_eq_true rfl⟩ rfl hl.1 rfl (Nat.le_of_ble_eq_true rfl) dL_change_174 ⟨Nat.le_of_ble_eq_true rfl, Nat.le_of_ble_eq_true rfl⟩ (fun r9 hr9 => ?_)
                  subst hr9
                  refine W.eq (g2 := F0 m 177 ls [.int (nI (lowN (w >>> (8 &&& 31)) (1000 - (lowN w 200)))), .int (nI ((lowN w 200) + 1)), .int (nI (lowN w 200)), .ref (q 0)]) rfl ?_
                  refine lv_iadd hx hb dL_change_177 ?_
                  refine W.eq (g2 := F0 m 178 ls [.int (nI (((lowN w 200) + 1) + (lowN (w >>> (8 &&& 31)) (1000 - (lowN w 200))))), .int (nI (lowN w 200)), .ref (q 0)]) (congrArg (fun z9 => F0 m 178 ls (.int z9 :: [.int (nI (lowN w 200)), .ref (q 0)])) (nI_add _ _)) ?_
                  refine wn_V S hkx hth (nX5_addVersion l hl0 (sa := sa) (A9 := A) (h9 := (fun q h => hA q (Nat.le_trans hS.1 h))) (hP := hP) (hD := hD.weaken (fun _ _ _ _ => trivial)) (hwf := hwf) (hsc := (by omega)) (hx := (by omega)) (hz1 := (by omega)) (hz := (by omega)) (h8 := (by omega)) (x := (lowN w 200)) (z := (((lowN w 200) + 1) + (lowN (w >>> (8 &&& 31)) (1000 - (lowN w 200)))))) gL_change_X5_addVersion rfl idX5_addVersion ⟨Nat.le_of_ble_eq_true rfl, Nat.le_of_ble_eq_true rfl⟩ hP 0 rfl rfl rfl rfl hl.1 rfl (Nat.le_of_ble_eq_true rfl) dL_change_178 ⟨Nat.le_of_ble_eq_true rfl, Nat.le_of_ble_eq_true rfl⟩ hS (fr_in hD (fun q h => hA q (Nat.le_trans hS.1 h))) (fun v9 H locs hp9 hz1 hk1 hS => ?_)
                  obtain ⟨rfl, hP⟩ := hp9
                  have hP : va_P G vwCl (wMain T q a (va_up N 0 (N 0 + 1)) (vAdd N Z (nI (lowN w 200)) (nI (((lowN w 200) + 1) + (lowN (w >>> (8 &&& 31)) (1000 - (lowN w 200)))))) (svB sc b) (psh sc M N) (psh sc Y Z) (svC sc) tx L cu er le nb nc) H := hP
                  have hD : va_D A (wMain T q a (va_up N 0 (N 0 + 1)) (vAdd N Z (nI (lowN w 200)) (nI (((lowN w 200) + 1) + (lowN (w >>> (8 &&& 31)) (1000 - (lowN w 200)))))) (svB sc b) (psh sc M N) (psh sc Y Z) (svC sc) tx L cu er le nb nc) := D_perm hD sv_addr
                  have hth := hth0.kept hS.2.1
                  refine W.eq (g2 := F0 m 181 ls [.int (nI (N 0))]) rfl ?_
                  refine lv_goto (tgt := 189) hx hb dL_change_181 (by decide) ?_
                  have hv9 : chg N Z v w = ((nI (N 0)), (va_up N 0 (N 0 + 1)), (vAdd N Z (nI (lowN w 200)) (nI (((lowN w 200) + 1) + (lowN (w >>> (8 &&& 31)) (1000 - (lowN w 200))))))) := by rw [hg]; unfold ch0; rw [if_pos (by first | assumption | omega | exact ⟨by first | assumption | omega, by first | assumption | omega⟩ | exact ⟨by first | assumption | omega, by first | assumption | omega, by first | assumption | omega⟩)]
                  exact hret _ H _ _ _ _ _ (show some (Value.int (nI (N 0))) = some (Value.int ((chg N Z v w).1)) ∧ wst G T q a (chg N Z v w).2.1 (chg N Z v w).2.2 b tx L cu er le nb nc H from ⟨by rw [hv9], by rw [hv9]; exact wst_sv hsc hP⟩) rfl hS (Nat.le_of_ble_eq_true rfl) (Nat.le_of_ble_eq_true rfl) dL_change_189
              · refine lv_tableIn (off := 98) (tgt := 190) hx hb dL_change_92 (by decide) (by decide) rfl (by decide) ?_
                have hg : chg N Z v w = ch1 N Z w := by unfold chg; rw [hcz]; rfl
                refine lv_iload_n hx hb dL_change_190 rfl (lv_at hl 5 rfl) ?_
                refine lv_if_le (tgt := 215) hx hb dL_change_191 (by decide) (fun c_58 => ?_) (fun c_58 => ?_)
                · replace c_58 := cn_le (a := (N 0)) (b := 0) (by omega) (by omega) c_58
                  refine lv_iload_n hx hb dL_change_215 rfl (lv_at hl 5 rfl) ?_
                  refine lv_if_ne (tgt := 230) hx hb dL_change_216 (by decide) (fun c_59 => ?_) (fun c_59 => ?_)
                  · exact absurd (show nI (N 0) = 0 by rw [show N 0 = 0 by omega]; rfl) c_59
                  · replace c_59 := cn_eq (a := (N 0)) (b := 0) (by omega) (by omega) c_59
                    refine lv_aload_n hx hb dL_change_219 rfl (lv_at hl 2 rfl) ?_
                    refine lv_iconst (v := 0) hx hb dL_change_220 (by decide) ?_
                    refine lv_sipush (v := 700) hx hb dL_change_221 (by decide) ?_
                    refine wn_V S hkx hth (nX5_addVersion l hl0 (sa := sa) (A9 := A) (h9 := (fun q h => hA q (Nat.le_trans hS.1 h))) (hP := hP) (hD := hD.weaken (fun _ _ _ _ => trivial)) (hwf := hwf) (hsc := (by omega)) (hx := (by omega)) (hz1 := (by omega)) (hz := (by omega)) (h8 := (by omega)) (x := 0) (z := 700)) gL_change_X5_addVersion rfl idX5_addVersion ⟨Nat.le_of_ble_eq_true rfl, Nat.le_of_ble_eq_true rfl⟩ hP 0 rfl rfl rfl rfl hl.1 rfl (Nat.le_of_ble_eq_true rfl) dL_change_224 ⟨Nat.le_of_ble_eq_true rfl, Nat.le_of_ble_eq_true rfl⟩ hS (fr_in hD (fun q h => hA q (Nat.le_trans hS.1 h))) (fun v9 H locs hp9 hz1 hk1 hS => ?_)
                    obtain ⟨rfl, hP⟩ := hp9
                    have hP : va_P G vwCl (wMain T q a (va_up N 0 (N 0 + 1)) (vAdd N Z (nI 0) (nI 700)) (svB sc b) (psh sc M N) (psh sc Y Z) (svC sc) tx L cu er le nb nc) H := hP
                    have hD : va_D A (wMain T q a (va_up N 0 (N 0 + 1)) (vAdd N Z (nI 0) (nI 700)) (svB sc b) (psh sc M N) (psh sc Y Z) (svC sc) tx L cu er le nb nc) := D_perm hD sv_addr
                    have hth := hth0.kept hS.2.1
                    refine W.eq (g2 := F0 m 227 ls [.int (nI (N 0))]) rfl ?_
                    refine lv_goto (tgt := 231) hx hb dL_change_227 (by decide) ?_
                    have hv9 : chg N Z v w = ((nI (N 0)), (va_up N 0 (N 0 + 1)), (vAdd N Z (nI 0) (nI 700))) := by rw [hg]; unfold ch1; rw [if_neg (by first | assumption | omega | exact (fun q9 => by first | omega | exact absurd q9.2 (by assumption) | exact absurd q9.2.1 (by assumption) | exact absurd q9.2.2 (by assumption)))]; rw [if_pos (by first | assumption | omega | exact ⟨by first | assumption | omega, by first | assumption | omega⟩ | exact ⟨by first | assumption | omega, by first | assumption | omega, by first | assumption | omega⟩)]
                    exact hret _ H _ _ _ _ _ (show some (Value.int (nI (N 0))) = some (Value.int ((chg N Z v w).1)) ∧ wst G T q a (chg N Z v w).2.1 (chg N Z v w).2.2 b tx L cu er le nb nc H from ⟨by rw [hv9], by rw [hv9]; exact wst_sv hsc hP⟩) rfl hS (Nat.le_of_ble_eq_true rfl) (Nat.le_of_ble_eq_true rfl) dL_change_231
                · replace c_58 := cn_nle (a := (N 0)) (b := 0) (by omega) (by omega) c_58
                  refine lv_iload hx hb dL_change_194 (lv_at hl 6 rfl) ?_
                  refine lv_bipush (v := 6) hx hb dL_change_196 (by decide) ?_
                  refine lv_icmp_ge (tgt := 215) hx hb dL_change_198 (by decide) (fun c_60 => ?_) (fun c_60 => ?_)
                  · replace c_60 := cn_le (a := 6) (b := (N 1)) (by omega) (by omega) c_60
                    refine lv_iload_n hx hb dL_change_215 rfl (lv_at hl 5 rfl) ?_
                    refine lv_if_ne (tgt := 230) hx hb dL_change_216 (by decide) (fun c_61 => ?_) (fun c_61 => ?_)
                    · replace c_61 := cn_ne (a := (N 0)) (b := 0) (by omega) (by omega) c_61
                      refine lv_iconst (v := 0) hx hb dL_change_230 (by decide) ?_
                      have hv9 : chg N Z v w = (0, N, Z) := by rw [hg]; unfold ch1; rw [if_neg (by first | assumption | omega | exact (fun q9 => by first | omega | exact absurd q9.2 (by assumption) | exact absurd q9.2.1 (by assumption) | exact absurd q9.2.2 (by assumption)))]; rw [if_neg (by first | assumption | omega | exact (fun q9 => by first | omega | exact absurd q9.2 (by assumption) | exact absurd q9.2.1 (by assumption) | exact absurd q9.2.2 (by assumption)))]
                      exact hret _ H _ _ _ _ _ (show some (Value.int 0) = some (Value.int ((chg N Z v w).1)) ∧ wst G T q a (chg N Z v w).2.1 (chg N Z v w).2.2 b tx L cu er le nb nc H from ⟨by rw [hv9], by rw [hv9]; exact wst_id hsc hP⟩) rfl hS (Nat.le_of_ble_eq_true rfl) (Nat.le_of_ble_eq_true rfl) dL_change_231
                    · exfalso; replace c_61 := cn_eq (a := N 0) (b := 0) (by omega) (by omega) c_61; omega
                  · replace c_60 := cn_nle (a := 6) (b := (N 1)) (by omega) (by omega) c_60
                    refine lv_aload_n hx hb dL_change_201 rfl (lv_at hl 2 rfl) ?_
                    refine lv_iload_n hx hb dL_change_202 rfl (lv_at hl 4 rfl) ?_
                    refine lv_iconst (v := 1) hx hb dL_change_203 (by decide) ?_
                    refine lv_iload_n hx hb dL_change_204 rfl (lv_at hl 5 rfl) ?_
                    refine lv_ishl hx hb dL_change_205 ?_
                    refine W.eq (g2 := F0 m 206 ls [.int (nI (2 ^ N 0)), .int w, .ref (q 0)]) (congrArg (fun z9 => F0 m 206 ls (.int z9 :: [.int w, .ref (q 0)])) (sh_1 (N 0) (by omega))) ?_
                    refine ro_S S hkx (mL_low l (v := w) (k := (2 ^ N 0)) (h0 := (Nat.pow_pos (by decide))) (hk := (Nat.pow_lt_pow_right (by decide) (by omega)))) gL_change_L_low rfl idL_low.2 ⟨Nat.le_of_ble_eq_true rfl, Nat.le_of_ble_eq_true rfl⟩ rfl hl.1 rfl (Nat.le_of_ble_eq_true rfl) dL_change_206 ⟨Nat.le_of_ble_eq_true rfl, Nat.le_of_ble_eq_true rfl⟩ (fun r9 hr9 => ?_)
                    subst hr9
                    refine W.eq (g2 := F0 m 209 ls [.int (nI (lowN w (2 ^ N 0))), .ref (q 0)]) rfl ?_
                    refine wn_V S hkx hth (nX5_addFeature l hl0 (sa := sa) (A9 := A) (h9 := (fun q h => hA q (Nat.le_trans hS.1 h))) (hP := hP) (hD := hD.weaken (fun _ _ _ _ => trivial)) (hwf := hwf) (hsc := (by omega)) (hx := (lowN_lt _ (Nat.pow_pos (by decide)))) (h8 := (by omega)) (x := (lowN w (2 ^ N 0)))) gL_change_X5_addFeature rfl idX5_addFeature ⟨Nat.le_of_ble_eq_true rfl, Nat.le_of_ble_eq_true rfl⟩ hP 0 rfl rfl rfl rfl hl.1 rfl (Nat.le_of_ble_eq_true rfl) dL_change_209 ⟨Nat.le_of_ble_eq_true rfl, Nat.le_of_ble_eq_true rfl⟩ hS (fr_in hD (fun q h => hA q (Nat.le_trans hS.1 h))) (fun v9 H locs hp9 hz1 hk1 hS => ?_)
                    obtain ⟨rfl, hP⟩ := hp9
                    have hP : va_P G vwCl (wMain T q a (va_up N 1 (N 1 + 1)) (va_up Z 4 (apF (Z 4) (nI (lowN w (2 ^ N 0))) (N 1) (N 0))) (svB sc b) (psh sc M N) (psh sc Y Z) (svC sc) tx L cu er le nb nc) H := hP
                    have hD : va_D A (wMain T q a (va_up N 1 (N 1 + 1)) (va_up Z 4 (apF (Z 4) (nI (lowN w (2 ^ N 0))) (N 1) (N 0))) (svB sc b) (psh sc M N) (psh sc Y Z) (svC sc) tx L cu er le nb nc) := D_perm hD sv_addr
                    have hth := hth0.kept hS.2.1
                    refine W.eq (g2 := F0 m 212 ls [.int (nI (N 1))]) rfl ?_
                    refine lv_goto (tgt := 231) hx hb dL_change_212 (by decide) ?_
                    have hv9 : chg N Z v w = ((nI (N 1)), (va_up N 1 (N 1 + 1)), (va_up Z 4 (apF (Z 4) (nI (lowN w (2 ^ N 0))) (N 1) (N 0)))) := by rw [hg]; unfold ch1; rw [if_pos (by first | assumption | omega | exact ⟨by first | assumption | omega, by first | assumption | omega⟩ | exact ⟨by first | assumption | omega, by first | assumption | omega, by first | assumption | omega⟩)]
                    exact hret _ H _ _ _ _ _ (show some (Value.int (nI (N 1))) = some (Value.int ((chg N Z v w).1)) ∧ wst G T q a (chg N Z v w).2.1 (chg N Z v w).2.2 b tx L cu er le nb nc H from ⟨by rw [hv9], by rw [hv9]; exact wst_sv hsc hP⟩) rfl hS (Nat.le_of_ble_eq_true rfl) (Nat.le_of_ble_eq_true rfl) dL_change_231
              · refine lv_tableIn (off := 140) (tgt := 232) hx hb dL_change_92 (by decide) (by decide) rfl (by decide) ?_
                have hg : chg N Z v w = ch2 N Z v := by unfold chg; rw [hcz]; rfl
                refine lv_iload_n hx hb dL_change_232 rfl (lv_at hl 5 rfl) ?_
                refine lv_if_le (tgt := 272) hx hb dL_change_233 (by decide) (fun c_62 => ?_) (fun c_62 => ?_)
                · replace c_62 := cn_le (a := (N 0)) (b := 0) (by omega) (by omega) c_62
                  refine lv_iconst (v := 0) hx hb dL_change_272 (by decide) ?_
                  have hv9 : chg N Z v w = (0, N, Z) := by rw [hg]; unfold ch2; rw [if_neg (by first | assumption | omega | exact (fun q9 => by first | omega | exact absurd q9.2 (by assumption) | exact absurd q9.2.1 (by assumption) | exact absurd q9.2.2 (by assumption)))]
                  exact hret _ H _ _ _ _ _ (show some (Value.int 0) = some (Value.int ((chg N Z v w).1)) ∧ wst G T q a (chg N Z v w).2.1 (chg N Z v w).2.2 b tx L cu er le nb nc H from ⟨by rw [hv9], by rw [hv9]; exact wst_id hsc hP⟩) rfl hS (Nat.le_of_ble_eq_true rfl) (Nat.le_of_ble_eq_true rfl) dL_change_273
                · replace c_62 := cn_nle (a := (N 0)) (b := 0) (by omega) (by omega) c_62
                  refine lv_iload hx hb dL_change_236 (lv_at hl 6 rfl) ?_
                  refine lv_if_le (tgt := 272) hx hb dL_change_238 (by decide) (fun c_63 => ?_) (fun c_63 => ?_)
                  · replace c_63 := cn_le (a := (N 1)) (b := 0) (by omega) (by omega) c_63
                    refine lv_iconst (v := 0) hx hb dL_change_272 (by decide) ?_
                    have hv9 : chg N Z v w = (0, N, Z) := by rw [hg]; unfold ch2; rw [if_neg (by first | assumption | omega | exact (fun q9 => by first | omega | exact absurd q9.2 (by assumption) | exact absurd q9.2.1 (by assumption) | exact absurd q9.2.2 (by assumption)))]
                    exact hret _ H _ _ _ _ _ (show some (Value.int 0) = some (Value.int ((chg N Z v w).1)) ∧ wst G T q a (chg N Z v w).2.1 (chg N Z v w).2.2 b tx L cu er le nb nc H from ⟨by rw [hv9], by rw [hv9]; exact wst_id hsc hP⟩) rfl hS (Nat.le_of_ble_eq_true rfl) (Nat.le_of_ble_eq_true rfl) dL_change_273
                  · replace c_63 := cn_nle (a := (N 1)) (b := 0) (by omega) (by omega) c_63
                    refine lv_aload_n hx hb dL_change_241 rfl (lv_at hl 2 rfl) ?_
                    refine lv_iload hx hb dL_change_242 (lv_at hl 1 rfl) ?_
                    refine lv_iload hx hb dL_change_244 (lv_at hl 9 rfl) ?_
                    refine lv_aload_n hx hb dL_change_246 rfl (lv_at hl 2 rfl) ?_
                    refine lv_iload hx hb dL_change_247 (lv_at hl 9 rfl) ?_
                    refine lv_iconst (v := 2) hx hb dL_change_249 (by decide) ?_
                    refine rn_V S hkx hth (nX5_version l hl0 (sa := sa) (h9 := (fun q h => hA q (Nat.le_trans hS.1 h))) (hP := hP) (hwf := hwf) (hv := (chA_lt (by omega))) (hw := (by omega)) (v := (chA N v)) (w := 2)) gL_change_X5_version rfl idX5_version ⟨Nat.le_of_ble_eq_true rfl, Nat.le_of_ble_eq_true rfl⟩ hP 0 rfl rfl rfl rfl hl.1 rfl (Nat.le_of_ble_eq_true rfl) dL_change_250 ⟨Nat.le_of_ble_eq_true rfl, Nat.le_of_ble_eq_true rfl⟩ (fun v9 hv9 => ?_)
                    subst hv9
                    refine W.eq (g2 := F0 m 253 ls [.int (Z 4 (chA N v)), .int (nI (chA N v)), .int (nI (chF N v)), .ref (q 0)]) rfl ?_
                    refine lv_iload hx hb dL_change_253 (lv_at hl 1 rfl) ?_
                    refine lv_ishr hx hb dL_change_255 ?_
                    refine lv_iconst (v := 1) hx hb dL_change_256 (by decide) ?_
                    refine lv_iand hx hb dL_change_257 ?_
                    refine W.eq (g2 := F0 m 258 ls [.int (bI (cnt1 (Z 4 (chA N v)) (nI (chF N v)))), .int (nI (chA N v)), .int (nI (chF N v)), .ref (q 0)]) (congrArg (fun z9 => F0 m 258 ls (.int z9 :: [.int (nI (chA N v)), .int (nI (chF N v)), .ref (q 0)])) (and_cn (Nat.lt_of_lt_of_le (chF_lt (by omega)) (by omega)))) ?_
                    refine lv_if_ne (tgt := 265) hx hb dL_change_258 (by decide) (fun c_64 => ?_) (fun c_64 => ?_)
                    · replace c_64 := bI_n0 c_64
                      refine lv_iconst (v := 0) hx hb dL_change_265 (by decide) ?_
                      refine W.eq (g2 := F0 m 266 ls [.int (bI false), .int (nI (chA N v)), .int (nI (chF N v)), .ref (q 0)]) (congrArg (fun z9 => F0 m 266 ls (.int z9 :: [.int (nI (chA N v)), .int (nI (chF N v)), .ref (q 0)])) (rfl)) ?_
                      refine wn_V S hkx hth (nX5_put l hl0 (sa := sa) (A9 := A) (h9 := (fun q h => hA q (Nat.le_trans hS.1 h))) (hP := hP) (hD := hD.weaken (fun _ _ _ _ => trivial)) (hwf := hwf) (hsc := (by omega)) (hf := (chF_lt (by omega))) (hv := (chA_lt (by omega))) (h8 := (by first | (rw [show cnt1 (Z 4 (chA N v)) (nI (chF N v)) = true by assumption]; decide) | (rw [show cnt1 (Z 4 (chA N v)) (nI (chF N v)) = false by assumption]; decide))) (f := (chF N v)) (v := (chA N v)) (h := false)) gL_change_X5_put rfl idX5_put ⟨Nat.le_of_ble_eq_true rfl, Nat.le_of_ble_eq_true rfl⟩ hP 0 rfl rfl rfl rfl hl.1 rfl (Nat.le_of_ble_eq_true rfl) dL_change_266 ⟨Nat.le_of_ble_eq_true rfl, Nat.le_of_ble_eq_true rfl⟩ hS (fr_in hD (fun q h => hA q (Nat.le_trans hS.1 h))) (fun v9 H locs hp9 hz1 hk1 hS => ?_)
                      obtain ⟨rfl, hP⟩ := hp9
                      have hP : va_P G vwCl (wMain T q a N (va_up Z 4 (upd (Z 4) (chA N v) (Z 4 (chA N v) ^^^ ((1 : Int32) <<< (nI (chF N v) &&& 31))))) (svB sc b) (psh sc M N) (psh sc Y Z) (svC sc) tx L cu er le nb nc) H := hP
                      have hD : va_D A (wMain T q a N (va_up Z 4 (upd (Z 4) (chA N v) (Z 4 (chA N v) ^^^ ((1 : Int32) <<< (nI (chF N v) &&& 31))))) (svB sc b) (psh sc M N) (psh sc Y Z) (svC sc) tx L cu er le nb nc) := D_perm hD sv_addr
                      have hth := hth0.kept hS.2.1
                      refine W.eq (g2 := F0 m 269 ls [.int (allW (va_up Z 4 (upd (Z 4) (chA N v) (Z 4 (chA N v) ^^^ ((1 : Int32) <<< (nI (chF N v) &&& 31))))) (nI (chF N v)) (N 0))]) rfl ?_
                      refine lv_goto (tgt := 273) hx hb dL_change_269 (by decide) ?_
                      have hv9 : chg N Z v w = ((allW (va_up Z 4 (upd (Z 4) (chA N v) (Z 4 (chA N v) ^^^ ((1 : Int32) <<< (nI (chF N v) &&& 31))))) (nI (chF N v)) (N 0)), N, (va_up Z 4 (upd (Z 4) (chA N v) (Z 4 (chA N v) ^^^ ((1 : Int32) <<< (nI (chF N v) &&& 31)))))) := by rw [hg]; unfold ch2; rw [if_pos (by first | assumption | omega | exact ⟨by first | assumption | omega, by first | assumption | omega⟩ | exact ⟨by first | assumption | omega, by first | assumption | omega, by first | assumption | omega⟩)]
                      exact hret _ H _ _ _ _ _ (show some (Value.int (allW (va_up Z 4 (upd (Z 4) (chA N v) (Z 4 (chA N v) ^^^ ((1 : Int32) <<< (nI (chF N v) &&& 31))))) (nI (chF N v)) (N 0))) = some (Value.int ((chg N Z v w).1)) ∧ wst G T q a (chg N Z v w).2.1 (chg N Z v w).2.2 b tx L cu er le nb nc H from ⟨by rw [hv9], by rw [hv9]; exact wst_sv hsc hP⟩) rfl hS (Nat.le_of_ble_eq_true rfl) (Nat.le_of_ble_eq_true rfl) dL_change_273
                    · replace c_64 := bI_e0 c_64
                      refine lv_iconst (v := 1) hx hb dL_change_261 (by decide) ?_
                      refine lv_goto (tgt := 266) hx hb dL_change_262 (by decide) ?_
                      refine W.eq (g2 := F0 m 266 ls [.int (bI true), .int (nI (chA N v)), .int (nI (chF N v)), .ref (q 0)]) (congrArg (fun z9 => F0 m 266 ls (.int z9 :: [.int (nI (chA N v)), .int (nI (chF N v)), .ref (q 0)])) (rfl)) ?_
                      refine wn_V S hkx hth (nX5_put l hl0 (sa := sa) (A9 := A) (h9 := (fun q h => hA q (Nat.le_trans hS.1 h))) (hP := hP) (hD := hD.weaken (fun _ _ _ _ => trivial)) (hwf := hwf) (hsc := (by omega)) (hf := (chF_lt (by omega))) (hv := (chA_lt (by omega))) (h8 := (by first | (rw [show cnt1 (Z 4 (chA N v)) (nI (chF N v)) = true by assumption]; decide) | (rw [show cnt1 (Z 4 (chA N v)) (nI (chF N v)) = false by assumption]; decide))) (f := (chF N v)) (v := (chA N v)) (h := true)) gL_change_X5_put rfl idX5_put ⟨Nat.le_of_ble_eq_true rfl, Nat.le_of_ble_eq_true rfl⟩ hP 0 rfl rfl rfl rfl hl.1 rfl (Nat.le_of_ble_eq_true rfl) dL_change_266 ⟨Nat.le_of_ble_eq_true rfl, Nat.le_of_ble_eq_true rfl⟩ hS (fr_in hD (fun q h => hA q (Nat.le_trans hS.1 h))) (fun v9 H locs hp9 hz1 hk1 hS => ?_)
                      obtain ⟨rfl, hP⟩ := hp9
                      have hP : va_P G vwCl (wMain T q a N (va_up Z 4 (upd (Z 4) (chA N v) (Z 4 (chA N v) ^^^ ((1 : Int32) <<< (nI (chF N v) &&& 31))))) (svB sc b) (psh sc M N) (psh sc Y Z) (svC sc) tx L cu er le nb nc) H := hP
                      have hD : va_D A (wMain T q a N (va_up Z 4 (upd (Z 4) (chA N v) (Z 4 (chA N v) ^^^ ((1 : Int32) <<< (nI (chF N v) &&& 31))))) (svB sc b) (psh sc M N) (psh sc Y Z) (svC sc) tx L cu er le nb nc) := D_perm hD sv_addr
                      have hth := hth0.kept hS.2.1
                      refine W.eq (g2 := F0 m 269 ls [.int (allW (va_up Z 4 (upd (Z 4) (chA N v) (Z 4 (chA N v) ^^^ ((1 : Int32) <<< (nI (chF N v) &&& 31))))) (nI (chF N v)) (N 0))]) rfl ?_
                      refine lv_goto (tgt := 273) hx hb dL_change_269 (by decide) ?_
                      have hv9 : chg N Z v w = ((allW (va_up Z 4 (upd (Z 4) (chA N v) (Z 4 (chA N v) ^^^ ((1 : Int32) <<< (nI (chF N v) &&& 31))))) (nI (chF N v)) (N 0)), N, (va_up Z 4 (upd (Z 4) (chA N v) (Z 4 (chA N v) ^^^ ((1 : Int32) <<< (nI (chF N v) &&& 31)))))) := by rw [hg]; unfold ch2; rw [if_pos (by first | assumption | omega | exact ⟨by first | assumption | omega, by first | assumption | omega⟩ | exact ⟨by first | assumption | omega, by first | assumption | omega, by first | assumption | omega⟩)]
                      exact hret _ H _ _ _ _ _ (show some (Value.int (allW (va_up Z 4 (upd (Z 4) (chA N v) (Z 4 (chA N v) ^^^ ((1 : Int32) <<< (nI (chF N v) &&& 31))))) (nI (chF N v)) (N 0))) = some (Value.int ((chg N Z v w).1)) ∧ wst G T q a (chg N Z v w).2.1 (chg N Z v w).2.2 b tx L cu er le nb nc H from ⟨by rw [hv9], by rw [hv9]; exact wst_sv hsc hP⟩) rfl hS (Nat.le_of_ble_eq_true rfl) (Nat.le_of_ble_eq_true rfl) dL_change_273
              · refine lv_tableIn (off := 182) (tgt := 274) hx hb dL_change_92 (by decide) (by decide) rfl (by decide) ?_
                have hg : chg N Z v w = ch3 N Z v w := by unfold chg; rw [hcz]; rfl
                refine lv_iload_n hx hb dL_change_274 rfl (lv_at hl 5 rfl) ?_
                refine lv_if_le (tgt := 303) hx hb dL_change_275 (by decide) (fun c_65 => ?_) (fun c_65 => ?_)
                · replace c_65 := cn_le (a := (N 0)) (b := 0) (by omega) (by omega) c_65
                  refine lv_iconst (v := 0) hx hb dL_change_303 (by decide) ?_
                  have hv9 : chg N Z v w = (0, N, Z) := by rw [hg]; unfold ch3; rw [if_neg (by first | assumption | omega | exact (fun q9 => by first | omega | exact absurd q9.2 (by assumption) | exact absurd q9.2.1 (by assumption) | exact absurd q9.2.2 (by assumption)))]
                  exact hret _ H _ _ _ _ _ (show some (Value.int 0) = some (Value.int ((chg N Z v w).1)) ∧ wst G T q a (chg N Z v w).2.1 (chg N Z v w).2.2 b tx L cu er le nb nc H from ⟨by rw [hv9], by rw [hv9]; exact wst_id hsc hP⟩) rfl hS (Nat.le_of_ble_eq_true rfl) (Nat.le_of_ble_eq_true rfl) dL_change_304
                · replace c_65 := cn_nle (a := (N 0)) (b := 0) (by omega) (by omega) c_65
                  refine lv_iload hx hb dL_change_278 (lv_at hl 7 rfl) ?_
                  refine lv_iconst (v := 5) hx hb dL_change_280 (by decide) ?_
                  refine lv_icmp_ge (tgt := 303) hx hb dL_change_281 (by decide) (fun c_66 => ?_) (fun c_66 => ?_)
                  · replace c_66 := cn_le (a := 5) (b := (N 2)) (by omega) (by omega) c_66
                    refine lv_iconst (v := 0) hx hb dL_change_303 (by decide) ?_
                    have hv9 : chg N Z v w = (0, N, Z) := by rw [hg]; unfold ch3; rw [if_neg (by first | assumption | omega | exact (fun q9 => by first | omega | exact absurd q9.2 (by assumption) | exact absurd q9.2.1 (by assumption) | exact absurd q9.2.2 (by assumption)))]
                    exact hret _ H _ _ _ _ _ (show some (Value.int 0) = some (Value.int ((chg N Z v w).1)) ∧ wst G T q a (chg N Z v w).2.1 (chg N Z v w).2.2 b tx L cu er le nb nc H from ⟨by rw [hv9], by rw [hv9]; exact wst_id hsc hP⟩) rfl hS (Nat.le_of_ble_eq_true rfl) (Nat.le_of_ble_eq_true rfl) dL_change_304
                  · replace c_66 := cn_nle (a := 5) (b := (N 2)) (by omega) (by omega) c_66
                    refine lv_aload_n hx hb dL_change_284 rfl (lv_at hl 2 rfl) ?_
                    refine lv_iload hx hb dL_change_285 (lv_at hl 9 rfl) ?_
                    refine lv_iload_n hx hb dL_change_287 rfl (lv_at hl 4 rfl) ?_
                    refine lv_iconst (v := 3) hx hb dL_change_288 (by decide) ?_
                    refine lv_ishr hx hb dL_change_289 ?_
                    refine lv_iconst (v := 1) hx hb dL_change_290 (by decide) ?_
                    refine lv_iload hx hb dL_change_291 (lv_at hl 6 rfl) ?_
                    refine lv_ishl hx hb dL_change_293 ?_
                    refine W.eq (g2 := F0 m 294 ls [.int (nI (2 ^ N 1)), .int (w >>> (3 &&& 31)), .int (nI (chA N v)), .ref (q 0)]) (congrArg (fun z9 => F0 m 294 ls (.int z9 :: [.int (w >>> (3 &&& 31)), .int (nI (chA N v)), .ref (q 0)])) (sh_1 (N 1) (by omega))) ?_
                    refine ro_S S hkx (mL_low l (v := (w >>> (3 &&& 31))) (k := (2 ^ N 1)) (h0 := (Nat.pow_pos (by decide))) (hk := (Nat.pow_lt_pow_right (by decide) (by omega)))) gL_change_L_low rfl idL_low.2 ⟨Nat.le_of_ble_eq_true rfl, Nat.le_of_ble_eq_true rfl⟩ rfl hl.1 rfl (Nat.le_of_ble_eq_true rfl) dL_change_294 ⟨Nat.le_of_ble_eq_true rfl, Nat.le_of_ble_eq_true rfl⟩ (fun r9 hr9 => ?_)
                    subst hr9
                    refine W.eq (g2 := F0 m 297 ls [.int (nI (lowN (w >>> (3 &&& 31)) (2 ^ N 1))), .int (nI (chA N v)), .ref (q 0)]) rfl ?_
                    refine wn_V S hkx hth (nX5_addUser l hl0 (sa := sa) (A9 := A) (h9 := (fun q h => hA q (Nat.le_trans hS.1 h))) (hP := hP) (hD := hD.weaken (fun _ _ _ _ => trivial)) (hwf := hwf) (hsc := (by omega)) (hv := (chA_lt (by omega))) (hx := (lowN_lt _ (Nat.pow_pos (by decide)))) (h8 := (by omega)) (v := (chA N v)) (x := (lowN (w >>> (3 &&& 31)) (2 ^ N 1)))) gL_change_X5_addUser rfl idX5_addUser ⟨Nat.le_of_ble_eq_true rfl, Nat.le_of_ble_eq_true rfl⟩ hP 0 rfl rfl rfl rfl hl.1 rfl (Nat.le_of_ble_eq_true rfl) dL_change_297 ⟨Nat.le_of_ble_eq_true rfl, Nat.le_of_ble_eq_true rfl⟩ hS (fr_in hD (fun q h => hA q (Nat.le_trans hS.1 h))) (fun v9 H locs hp9 hz1 hk1 hS => ?_)
                    obtain ⟨rfl, hP⟩ := hp9
                    have hP : va_P G vwCl (wMain T q a (va_up N 2 (N 2 + 1)) (uAdd N Z (nI (chA N v)) (nI (lowN (w >>> (3 &&& 31)) (2 ^ N 1)))) (svB sc b) (psh sc M N) (psh sc Y Z) (svC sc) tx L cu er le nb nc) H := hP
                    have hD : va_D A (wMain T q a (va_up N 2 (N 2 + 1)) (uAdd N Z (nI (chA N v)) (nI (lowN (w >>> (3 &&& 31)) (2 ^ N 1)))) (svB sc b) (psh sc M N) (psh sc Y Z) (svC sc) tx L cu er le nb nc) := D_perm hD sv_addr
                    have hth := hth0.kept hS.2.1
                    refine W.eq (g2 := F0 m 300 ls [.int (nI (N 2))]) rfl ?_
                    refine lv_goto (tgt := 304) hx hb dL_change_300 (by decide) ?_
                    have hv9 : chg N Z v w = ((nI (N 2)), (va_up N 2 (N 2 + 1)), (uAdd N Z (nI (chA N v)) (nI (lowN (w >>> (3 &&& 31)) (2 ^ N 1))))) := by rw [hg]; unfold ch3; rw [if_pos (by first | assumption | omega | exact ⟨by first | assumption | omega, by first | assumption | omega⟩ | exact ⟨by first | assumption | omega, by first | assumption | omega, by first | assumption | omega⟩)]
                    exact hret _ H _ _ _ _ _ (show some (Value.int (nI (N 2))) = some (Value.int ((chg N Z v w).1)) ∧ wst G T q a (chg N Z v w).2.1 (chg N Z v w).2.2 b tx L cu er le nb nc H from ⟨by rw [hv9], by rw [hv9]; exact wst_sv hsc hP⟩) rfl hS (Nat.le_of_ble_eq_true rfl) (Nat.le_of_ble_eq_true rfl) dL_change_304
              · refine lv_tableIn (off := 213) (tgt := 305) hx hb dL_change_92 (by decide) (by decide) rfl (by decide) ?_
                have hg : chg N Z v w = ch4 N Z v w := by unfold chg; rw [hcz]; rfl
                refine lv_iload hx hb dL_change_305 (lv_at hl 7 rfl) ?_
                refine lv_if_le (tgt := 328) hx hb dL_change_307 (by decide) (fun c_67 => ?_) (fun c_67 => ?_)
                · replace c_67 := cn_le (a := (N 2)) (b := 0) (by omega) (by omega) c_67
                  refine lv_iconst (v := 0) hx hb dL_change_328 (by decide) ?_
                  have hv9 : chg N Z v w = (0, N, Z) := by rw [hg]; unfold ch4; rw [if_neg (by first | assumption | omega | exact (fun q9 => by first | omega | exact absurd q9.2 (by assumption) | exact absurd q9.2.1 (by assumption) | exact absurd q9.2.2 (by assumption)))]
                  exact hret _ H _ _ _ _ _ (show some (Value.int 0) = some (Value.int ((chg N Z v w).1)) ∧ wst G T q a (chg N Z v w).2.1 (chg N Z v w).2.2 b tx L cu er le nb nc H from ⟨by rw [hv9], by rw [hv9]; exact wst_id hsc hP⟩) rfl hS (Nat.le_of_ble_eq_true rfl) (Nat.le_of_ble_eq_true rfl) dL_change_329
                · replace c_67 := cn_nle (a := (N 2)) (b := 0) (by omega) (by omega) c_67
                  refine lv_aload_n hx hb dL_change_310 rfl (lv_at hl 2 rfl) ?_
                  refine lv_iload hx hb dL_change_311 (lv_at hl 8 rfl) ?_
                  refine lv_iload hx hb dL_change_313 (lv_at hl 9 rfl) ?_
                  refine lv_iload_n hx hb dL_change_315 rfl (lv_at hl 4 rfl) ?_
                  refine lv_sipush (v := 1000) hx hb dL_change_316 (by decide) ?_
                  refine ro_S S hkx (mL_low l (v := w) (k := 1000) (h0 := (by omega)) (hk := (by omega))) gL_change_L_low rfl idL_low.2 ⟨Nat.le_of_ble_eq_true rfl, Nat.le_of_ble_eq_true rfl⟩ rfl hl.1 rfl (Nat.le_of_ble_eq_true rfl) dL_change_319 ⟨Nat.le_of_ble_eq_true rfl, Nat.le_of_ble_eq_true rfl⟩ (fun r9 hr9 => ?_)
                  subst hr9
                  refine W.eq (g2 := F0 m 322 ls [.int (nI (lowN w 1000)), .int (nI (chA N v)), .int (nI (chU N v)), .ref (q 0)]) rfl ?_
                  refine wn_V S hkx hth (nX5_pledge l hl0 (sa := sa) (A9 := A) (h9 := (fun q h => hA q (Nat.le_trans hS.1 h))) (hP := hP) (hD := hD.weaken (fun _ _ _ _ => trivial)) (hwf := hwf) (hsc := (by omega)) (hu := (chU_lt (by omega))) (hv := (chA_lt (u_v hwf (by omega)))) (hd := (by omega)) (u := (chU N v)) (v := (chA N v)) (d := (lowN w 1000))) gL_change_X5_pledge rfl idX5_pledge ⟨Nat.le_of_ble_eq_true rfl, Nat.le_of_ble_eq_true rfl⟩ hP 0 rfl rfl rfl rfl hl.1 rfl (Nat.le_of_ble_eq_true rfl) dL_change_322 ⟨Nat.le_of_ble_eq_true rfl, Nat.le_of_ble_eq_true rfl⟩ hS (fr_in hD (fun q h => hA q (Nat.le_trans hS.1 h))) (fun v9 H locs hp9 hz1 hk1 hS => ?_)
                  obtain ⟨rfl, hP⟩ := hp9
                  have hP : va_P G vwCl (wMain T q a N (uPl Z (chU N v) (nI (chA N v)) (nI (lowN w 1000))) (svB sc b) (psh sc M N) (psh sc Y Z) (svC sc) tx L cu er le nb nc) H := hP
                  have hD : va_D A (wMain T q a N (uPl Z (chU N v) (nI (chA N v)) (nI (lowN w 1000))) (svB sc b) (psh sc M N) (psh sc Y Z) (svC sc) tx L cu er le nb nc) := D_perm hD sv_addr
                  have hth := hth0.kept hS.2.1
                  refine W.eq (g2 := F0 m 325 ls [.int (Z 8 (chU N v))]) rfl ?_
                  refine lv_goto (tgt := 329) hx hb dL_change_325 (by decide) ?_
                  have hv9 : chg N Z v w = ((Z 8 (chU N v)), N, (uPl Z (chU N v) (nI (chA N v)) (nI (lowN w 1000)))) := by rw [hg]; unfold ch4; rw [if_pos (by first | assumption | omega | exact ⟨by first | assumption | omega, by first | assumption | omega⟩ | exact ⟨by first | assumption | omega, by first | assumption | omega, by first | assumption | omega⟩)]
                  exact hret _ H _ _ _ _ _ (show some (Value.int (Z 8 (chU N v))) = some (Value.int ((chg N Z v w).1)) ∧ wst G T q a (chg N Z v w).2.1 (chg N Z v w).2.2 b tx L cu er le nb nc H from ⟨by rw [hv9], by rw [hv9]; exact wst_sv hsc hP⟩) rfl hS (Nat.le_of_ble_eq_true rfl) (Nat.le_of_ble_eq_true rfl) dL_change_329
              · refine lv_tableIn (off := 213) (tgt := 305) hx hb dL_change_92 (by decide) (by decide) rfl (by decide) ?_
                have hg : chg N Z v w = ch4 N Z v w := by unfold chg; rw [hcz]; rfl
                refine lv_iload hx hb dL_change_305 (lv_at hl 7 rfl) ?_
                refine lv_if_le (tgt := 328) hx hb dL_change_307 (by decide) (fun c_68 => ?_) (fun c_68 => ?_)
                · replace c_68 := cn_le (a := (N 2)) (b := 0) (by omega) (by omega) c_68
                  refine lv_iconst (v := 0) hx hb dL_change_328 (by decide) ?_
                  have hv9 : chg N Z v w = (0, N, Z) := by rw [hg]; unfold ch4; rw [if_neg (by first | assumption | omega | exact (fun q9 => by first | omega | exact absurd q9.2 (by assumption) | exact absurd q9.2.1 (by assumption) | exact absurd q9.2.2 (by assumption)))]
                  exact hret _ H _ _ _ _ _ (show some (Value.int 0) = some (Value.int ((chg N Z v w).1)) ∧ wst G T q a (chg N Z v w).2.1 (chg N Z v w).2.2 b tx L cu er le nb nc H from ⟨by rw [hv9], by rw [hv9]; exact wst_id hsc hP⟩) rfl hS (Nat.le_of_ble_eq_true rfl) (Nat.le_of_ble_eq_true rfl) dL_change_329
                · replace c_68 := cn_nle (a := (N 2)) (b := 0) (by omega) (by omega) c_68
                  refine lv_aload_n hx hb dL_change_310 rfl (lv_at hl 2 rfl) ?_
                  refine lv_iload hx hb dL_change_311 (lv_at hl 8 rfl) ?_
                  refine lv_iload hx hb dL_change_313 (lv_at hl 9 rfl) ?_
                  refine lv_iload_n hx hb dL_change_315 rfl (lv_at hl 4 rfl) ?_
                  refine lv_sipush (v := 1000) hx hb dL_change_316 (by decide) ?_
                  refine ro_S S hkx (mL_low l (v := w) (k := 1000) (h0 := (by omega)) (hk := (by omega))) gL_change_L_low rfl idL_low.2 ⟨Nat.le_of_ble_eq_true rfl, Nat.le_of_ble_eq_true rfl⟩ rfl hl.1 rfl (Nat.le_of_ble_eq_true rfl) dL_change_319 ⟨Nat.le_of_ble_eq_true rfl, Nat.le_of_ble_eq_true rfl⟩ (fun r9 hr9 => ?_)
                  subst hr9
                  refine W.eq (g2 := F0 m 322 ls [.int (nI (lowN w 1000)), .int (nI (chA N v)), .int (nI (chU N v)), .ref (q 0)]) rfl ?_
                  refine wn_V S hkx hth (nX5_pledge l hl0 (sa := sa) (A9 := A) (h9 := (fun q h => hA q (Nat.le_trans hS.1 h))) (hP := hP) (hD := hD.weaken (fun _ _ _ _ => trivial)) (hwf := hwf) (hsc := (by omega)) (hu := (chU_lt (by omega))) (hv := (chA_lt (u_v hwf (by omega)))) (hd := (by omega)) (u := (chU N v)) (v := (chA N v)) (d := (lowN w 1000))) gL_change_X5_pledge rfl idX5_pledge ⟨Nat.le_of_ble_eq_true rfl, Nat.le_of_ble_eq_true rfl⟩ hP 0 rfl rfl rfl rfl hl.1 rfl (Nat.le_of_ble_eq_true rfl) dL_change_322 ⟨Nat.le_of_ble_eq_true rfl, Nat.le_of_ble_eq_true rfl⟩ hS (fr_in hD (fun q h => hA q (Nat.le_trans hS.1 h))) (fun v9 H locs hp9 hz1 hk1 hS => ?_)
                  obtain ⟨rfl, hP⟩ := hp9
                  have hP : va_P G vwCl (wMain T q a N (uPl Z (chU N v) (nI (chA N v)) (nI (lowN w 1000))) (svB sc b) (psh sc M N) (psh sc Y Z) (svC sc) tx L cu er le nb nc) H := hP
                  have hD : va_D A (wMain T q a N (uPl Z (chU N v) (nI (chA N v)) (nI (lowN w 1000))) (svB sc b) (psh sc M N) (psh sc Y Z) (svC sc) tx L cu er le nb nc) := D_perm hD sv_addr
                  have hth := hth0.kept hS.2.1
                  refine W.eq (g2 := F0 m 325 ls [.int (Z 8 (chU N v))]) rfl ?_
                  refine lv_goto (tgt := 329) hx hb dL_change_325 (by decide) ?_
                  have hv9 : chg N Z v w = ((Z 8 (chU N v)), N, (uPl Z (chU N v) (nI (chA N v)) (nI (lowN w 1000)))) := by rw [hg]; unfold ch4; rw [if_pos (by first | assumption | omega | exact ⟨by first | assumption | omega, by first | assumption | omega⟩ | exact ⟨by first | assumption | omega, by first | assumption | omega, by first | assumption | omega⟩)]
                  exact hret _ H _ _ _ _ _ (show some (Value.int (Z 8 (chU N v))) = some (Value.int ((chg N Z v w).1)) ∧ wst G T q a (chg N Z v w).2.1 (chg N Z v w).2.2 b tx L cu er le nb nc H from ⟨by rw [hv9], by rw [hv9]; exact wst_sv hsc hP⟩) rfl hS (Nat.le_of_ble_eq_true rfl) (Nat.le_of_ble_eq_true rfl) dL_change_329
              · refine lv_tableIn (off := 238) (tgt := 330) hx hb dL_change_92 (by decide) (by decide) rfl (by decide) ?_
                have hg : chg N Z v w = ch6 N Z v := by unfold chg; rw [hcz]; rfl
                refine lv_iload hx hb dL_change_330 (lv_at hl 7 rfl) ?_
                refine lv_if_le (tgt := 354) hx hb dL_change_332 (by decide) (fun c_69 => ?_) (fun c_69 => ?_)
                · replace c_69 := cn_le (a := (N 2)) (b := 0) (by omega) (by omega) c_69
                  refine lv_iconst (v := 0) hx hb dL_change_354 (by decide) ?_
                  have hv9 : chg N Z v w = (0, N, Z) := by rw [hg]; unfold ch6; rw [if_neg (by first | assumption | omega | exact (fun q9 => by first | omega | exact absurd q9.2 (by assumption) | exact absurd q9.2.1 (by assumption) | exact absurd q9.2.2 (by assumption)))]
                  exact hret _ H _ _ _ _ _ (show some (Value.int 0) = some (Value.int ((chg N Z v w).1)) ∧ wst G T q a (chg N Z v w).2.1 (chg N Z v w).2.2 b tx L cu er le nb nc H from ⟨by rw [hv9], by rw [hv9]; exact wst_id hsc hP⟩) rfl hS (Nat.le_of_ble_eq_true rfl) (Nat.le_of_ble_eq_true rfl) dL_change_355
                · replace c_69 := cn_nle (a := (N 2)) (b := 0) (by omega) (by omega) c_69
                  refine lv_aload_n hx hb dL_change_335 rfl (lv_at hl 2 rfl) ?_
                  refine lv_iload hx hb dL_change_336 (lv_at hl 8 rfl) ?_
                  refine lv_iconst (v := 2) hx hb dL_change_338 (by decide) ?_
                  refine rn_V S hkx hth (nX5_user l hl0 (sa := sa) (h9 := (fun q h => hA q (Nat.le_trans hS.1 h))) (hP := hP) (hwf := hwf) (hu := (chU_lt (by omega))) (hw := (by omega)) (u := (chU N v)) (w := 2)) gL_change_X5_user rfl idX5_user ⟨Nat.le_of_ble_eq_true rfl, Nat.le_of_ble_eq_true rfl⟩ hP 0 rfl rfl rfl rfl hl.1 rfl (Nat.le_of_ble_eq_true rfl) dL_change_339 ⟨Nat.le_of_ble_eq_true rfl, Nat.le_of_ble_eq_true rfl⟩ (fun v9 hv9 => ?_)
                  subst hv9
                  refine W.eq (g2 := F0 m 342 ls [.int (Z 7 (chU N v))]) rfl ?_
                  refine lv_if_lt (tgt := 354) hx hb dL_change_342 (by decide) (fun c_70 => ?_) (fun c_70 => ?_)
                  · have c_70n := Int32.not_le.mpr c_70
                    refine lv_iconst (v := 0) hx hb dL_change_354 (by decide) ?_
                    have hv9 : chg N Z v w = (0, N, Z) := by rw [hg]; unfold ch6; rw [if_neg (by first | assumption | omega | exact (fun q9 => by first | omega | exact absurd q9.2 (by assumption) | exact absurd q9.2.1 (by assumption) | exact absurd q9.2.2 (by assumption)))]
                    exact hret _ H _ _ _ _ _ (show some (Value.int 0) = some (Value.int ((chg N Z v w).1)) ∧ wst G T q a (chg N Z v w).2.1 (chg N Z v w).2.2 b tx L cu er le nb nc H from ⟨by rw [hv9], by rw [hv9]; exact wst_id hsc hP⟩) rfl hS (Nat.le_of_ble_eq_true rfl) (Nat.le_of_ble_eq_true rfl) dL_change_355
                  · have c_70n := Int32.not_lt.mp c_70
                    refine lv_aload_n hx hb dL_change_345 rfl (lv_at hl 2 rfl) ?_
                    refine lv_iload hx hb dL_change_346 (lv_at hl 8 rfl) ?_
                    refine wn_V S hkx hth (nX5_takeBack l hl0 (sa := sa) (A9 := A) (h9 := (fun q h => hA q (Nat.le_trans hS.1 h))) (hP := hP) (hD := hD.weaken (fun _ _ _ _ => trivial)) (hwf := hwf) (hsc := (by omega)) (hu := (chU_lt (by omega))) (hp := (pl_u hwf (chU_lt (by omega)) (by assumption)).1) (u := (chU N v))) gL_change_X5_takeBack rfl idX5_takeBack ⟨Nat.le_of_ble_eq_true rfl, Nat.le_of_ble_eq_true rfl⟩ hP 0 rfl rfl rfl rfl hl.1 rfl (Nat.le_of_ble_eq_true rfl) dL_change_348 ⟨Nat.le_of_ble_eq_true rfl, Nat.le_of_ble_eq_true rfl⟩ hS (fr_in hD (fun q h => hA q (Nat.le_trans hS.1 h))) (fun v9 H locs hp9 hz1 hk1 hS => ?_)
                    obtain ⟨rfl, hP⟩ := hp9
                    have hP : va_P G vwCl (wMain T q a N (uPl Z (chU N v) (-1) (-1)) (svB sc b) (psh sc M N) (psh sc Y Z) (svC sc) tx L cu er le nb nc) H := hP
                    have hD : va_D A (wMain T q a N (uPl Z (chU N v) (-1) (-1)) (svB sc b) (psh sc M N) (psh sc Y Z) (svC sc) tx L cu er le nb nc) := D_perm hD sv_addr
                    have hth := hth0.kept hS.2.1
                    refine W.eq (g2 := F0 m 351 ls [.int (Z 8 (chU N v))]) rfl ?_
                    refine lv_goto (tgt := 355) hx hb dL_change_351 (by decide) ?_
                    have hv9 : chg N Z v w = ((Z 8 (chU N v)), N, (uPl Z (chU N v) (-1) (-1))) := by rw [hg]; unfold ch6; rw [if_pos (by first | assumption | omega | exact ⟨by first | assumption | omega, by first | assumption | omega⟩ | exact ⟨by first | assumption | omega, by first | assumption | omega, by first | assumption | omega⟩)]
                    exact hret _ H _ _ _ _ _ (show some (Value.int (Z 8 (chU N v))) = some (Value.int ((chg N Z v w).1)) ∧ wst G T q a (chg N Z v w).2.1 (chg N Z v w).2.2 b tx L cu er le nb nc H from ⟨by rw [hv9], by rw [hv9]; exact wst_sv hsc hP⟩) rfl hS (Nat.le_of_ble_eq_true rfl) (Nat.le_of_ble_eq_true rfl) dL_change_355
              · refine lv_tableIn (off := 264) (tgt := 356) hx hb dL_change_92 (by decide) (by decide) rfl (by decide) ?_
                have hg : chg N Z v w = ch7 N Z v w := by unfold chg; rw [hcz]; rfl
                refine lv_iload hx hb dL_change_356 (lv_at hl 7 rfl) ?_
                refine lv_if_le (tgt := 401) hx hb dL_change_358 (by decide) (fun c_71 => ?_) (fun c_71 => ?_)
                · replace c_71 := cn_le (a := (N 2)) (b := 0) (by omega) (by omega) c_71
                  refine lv_iconst (v := 0) hx hb dL_change_401 (by decide) ?_
                  have hv9 : chg N Z v w = (0, N, Z) := by rw [hg]; unfold ch7; rw [if_neg (by first | assumption | omega | exact (fun q9 => by first | omega | exact absurd q9.2 (by assumption) | exact absurd q9.2.1 (by assumption) | exact absurd q9.2.2 (by assumption)))]
                  exact hret _ H _ _ _ _ _ (show some (Value.int 0) = some (Value.int ((chg N Z v w).1)) ∧ wst G T q a (chg N Z v w).2.1 (chg N Z v w).2.2 b tx L cu er le nb nc H from ⟨by rw [hv9], by rw [hv9]; exact wst_id hsc hP⟩) rfl hS (Nat.le_of_ble_eq_true rfl) (Nat.le_of_ble_eq_true rfl) dL_change_402
                · replace c_71 := cn_nle (a := (N 2)) (b := 0) (by omega) (by omega) c_71
                  refine lv_aload_n hx hb dL_change_361 rfl (lv_at hl 2 rfl) ?_
                  refine lv_iload hx hb dL_change_362 (lv_at hl 8 rfl) ?_
                  refine lv_iconst (v := 2) hx hb dL_change_364 (by decide) ?_
                  refine rn_V S hkx hth (nX5_user l hl0 (sa := sa) (h9 := (fun q h => hA q (Nat.le_trans hS.1 h))) (hP := hP) (hwf := hwf) (hu := (chU_lt (by omega))) (hw := (by omega)) (u := (chU N v)) (w := 2)) gL_change_X5_user rfl idX5_user ⟨Nat.le_of_ble_eq_true rfl, Nat.le_of_ble_eq_true rfl⟩ hP 0 rfl rfl rfl rfl hl.1 rfl (Nat.le_of_ble_eq_true rfl) dL_change_365 ⟨Nat.le_of_ble_eq_true rfl, Nat.le_of_ble_eq_true rfl⟩ (fun v9 hv9 => ?_)
                  subst hv9
                  refine W.eq (g2 := F0 m 368 ls [.int (Z 7 (chU N v))]) rfl ?_
                  refine lv_if_lt (tgt := 401) hx hb dL_change_368 (by decide) (fun c_72 => ?_) (fun c_72 => ?_)
                  · have c_72n := Int32.not_le.mpr c_72
                    refine lv_iconst (v := 0) hx hb dL_change_401 (by decide) ?_
                    have hv9 : chg N Z v w = (0, N, Z) := by rw [hg]; unfold ch7; rw [if_neg (by first | assumption | omega | exact (fun q9 => by first | omega | exact absurd q9.2 (by assumption) | exact absurd q9.2.1 (by assumption) | exact absurd q9.2.2 (by assumption)))]
                    exact hret _ H _ _ _ _ _ (show some (Value.int 0) = some (Value.int ((chg N Z v w).1)) ∧ wst G T q a (chg N Z v w).2.1 (chg N Z v w).2.2 b tx L cu er le nb nc H from ⟨by rw [hv9], by rw [hv9]; exact wst_id hsc hP⟩) rfl hS (Nat.le_of_ble_eq_true rfl) (Nat.le_of_ble_eq_true rfl) dL_change_402
                  · have c_72n := Int32.not_lt.mp c_72
                    refine lv_aload_n hx hb dL_change_371 rfl (lv_at hl 2 rfl) ?_
                    refine lv_iload hx hb dL_change_372 (lv_at hl 8 rfl) ?_
                    refine lv_iconst (v := 3) hx hb dL_change_374 (by decide) ?_
                    refine rn_V S hkx hth (nX5_user l hl0 (sa := sa) (h9 := (fun q h => hA q (Nat.le_trans hS.1 h))) (hP := hP) (hwf := hwf) (hu := (chU_lt (by omega))) (hw := (by omega)) (u := (chU N v)) (w := 3)) gL_change_X5_user rfl idX5_user ⟨Nat.le_of_ble_eq_true rfl, Nat.le_of_ble_eq_true rfl⟩ hP 0 rfl rfl rfl rfl hl.1 rfl (Nat.le_of_ble_eq_true rfl) dL_change_375 ⟨Nat.le_of_ble_eq_true rfl, Nat.le_of_ble_eq_true rfl⟩ (fun v9 hv9 => ?_)
                    subst hv9
                    refine W.eq (g2 := F0 m 378 ls [.int (Z 8 (chU N v))]) rfl ?_
                    refine lv_sipush (v := 900) hx hb dL_change_378 (by decide) ?_
                    refine lv_icmp_ge (tgt := 401) hx hb dL_change_381 (by decide) (fun c_73 => ?_) (fun c_73 => ?_)
                    · have c_73n := Int32.not_lt.mpr c_73
                      refine lv_iconst (v := 0) hx hb dL_change_401 (by decide) ?_
                      have hv9 : chg N Z v w = (0, N, Z) := by rw [hg]; unfold ch7; rw [if_neg (by first | assumption | omega | exact (fun q9 => by first | omega | exact absurd q9.2 (by assumption) | exact absurd q9.2.1 (by assumption) | exact absurd q9.2.2 (by assumption)))]
                      exact hret _ H _ _ _ _ _ (show some (Value.int 0) = some (Value.int ((chg N Z v w).1)) ∧ wst G T q a (chg N Z v w).2.1 (chg N Z v w).2.2 b tx L cu er le nb nc H from ⟨by rw [hv9], by rw [hv9]; exact wst_id hsc hP⟩) rfl hS (Nat.le_of_ble_eq_true rfl) (Nat.le_of_ble_eq_true rfl) dL_change_402
                    · have c_73n := Int32.not_le.mp c_73
                      refine lv_aload_n hx hb dL_change_384 rfl (lv_at hl 2 rfl) ?_
                      refine lv_iload hx hb dL_change_385 (lv_at hl 8 rfl) ?_
                      refine lv_iconst (v := 1) hx hb dL_change_387 (by decide) ?_
                      refine lv_iload_n hx hb dL_change_388 rfl (lv_at hl 4 rfl) ?_
                      refine lv_bipush (v := 99) hx hb dL_change_389 (by decide) ?_
                      refine ro_S S hkx (mL_low l (v := w) (k := 99) (h0 := (by omega)) (hk := (by omega))) gL_change_L_low rfl idL_low.2 ⟨Nat.le_of_ble_eq_true rfl, Nat.le_of_ble_eq_true rfl⟩ rfl hl.1 rfl (Nat.le_of_ble_eq_true rfl) dL_change_391 ⟨Nat.le_of_ble_eq_true rfl, Nat.le_of_ble_eq_true rfl⟩ (fun r9 hr9 => ?_)
                      subst hr9
                      refine W.eq (g2 := F0 m 394 ls [.int (nI (lowN w 99)), .int 1, .int (nI (chU N v)), .ref (q 0)]) rfl ?_
                      refine lv_iadd hx hb dL_change_394 ?_
                      refine W.eq (g2 := F0 m 395 ls [.int (nI (1 + (lowN w 99))), .int (nI (chU N v)), .ref (q 0)]) (congrArg (fun z9 => F0 m 395 ls (.int z9 :: [.int (nI (chU N v)), .ref (q 0)])) (nI_add 1 _)) ?_
                      refine wn_V S hkx hth (nX5_slip l hl0 (sa := sa) (A9 := A) (h9 := (fun q h => hA q (Nat.le_trans hS.1 h))) (hP := hP) (hD := hD.weaken (fun _ _ _ _ => trivial)) (hwf := hwf) (hsc := (by omega)) (hu := (chU_lt (by omega))) (ht1 := (by omega)) (ht := (by omega)) (hp := (pl_u hwf (chU_lt (by omega)) (by assumption)).1) (h9d := (sl_rng hwf (chU_lt (by omega)) (by assumption) (by assumption) (by omega))) (u := (chU N v)) (t := (1 + (lowN w 99)))) gL_change_X5_slip rfl idX5_slip ⟨Nat.le_of_ble_eq_true rfl, Nat.le_of_ble_eq_true rfl⟩ hP 0 rfl rfl rfl rfl hl.1 rfl (Nat.le_of_ble_eq_true rfl) dL_change_395 ⟨Nat.le_of_ble_eq_true rfl, Nat.le_of_ble_eq_true rfl⟩ hS (fr_in hD (fun q h => hA q (Nat.le_trans hS.1 h))) (fun v9 H locs hp9 hz1 hk1 hS => ?_)
                      obtain ⟨rfl, hP⟩ := hp9
                      have hP : va_P G vwCl (wMain T q a N (uSl Z (chU N v) (nI (1 + (lowN w 99)))) (svB sc b) (psh sc M N) (psh sc Y Z) (svC sc) tx L cu er le nb nc) H := hP
                      have hD : va_D A (wMain T q a N (uSl Z (chU N v) (nI (1 + (lowN w 99)))) (svB sc b) (psh sc M N) (psh sc Y Z) (svC sc) tx L cu er le nb nc) := D_perm hD sv_addr
                      have hth := hth0.kept hS.2.1
                      refine W.eq (g2 := F0 m 398 ls [.int (uSl Z (chU N v) (nI (1 + (lowN w 99))) 8 (chU N v))]) rfl ?_
                      refine lv_goto (tgt := 402) hx hb dL_change_398 (by decide) ?_
                      have hv9 : chg N Z v w = ((uSl Z (chU N v) (nI (1 + (lowN w 99))) 8 (chU N v)), N, (uSl Z (chU N v) (nI (1 + (lowN w 99))))) := by rw [hg]; unfold ch7; rw [if_pos (by first | assumption | omega | exact ⟨by first | assumption | omega, by first | assumption | omega⟩ | exact ⟨by first | assumption | omega, by first | assumption | omega, by first | assumption | omega⟩)]
                      exact hret _ H _ _ _ _ _ (show some (Value.int (uSl Z (chU N v) (nI (1 + (lowN w 99))) 8 (chU N v))) = some (Value.int ((chg N Z v w).1)) ∧ wst G T q a (chg N Z v w).2.1 (chg N Z v w).2.2 b tx L cu er le nb nc H from ⟨by rw [hv9], by rw [hv9]; exact wst_sv hsc hP⟩) rfl hS (Nat.le_of_ble_eq_true rfl) (Nat.le_of_ble_eq_true rfl) dL_change_402
              · refine lv_tableIn (off := 311) (tgt := 403) hx hb dL_change_92 (by decide) (by decide) rfl (by decide) ?_
                have hg : chg N Z v w = ch8 N Z v w := by unfold chg; rw [hcz]; rfl
                refine lv_iload_n hx hb dL_change_403 rfl (lv_at hl 5 rfl) ?_
                refine lv_if_le (tgt := 437) hx hb dL_change_404 (by decide) (fun c_74 => ?_) (fun c_74 => ?_)
                · replace c_74 := cn_le (a := (N 0)) (b := 0) (by omega) (by omega) c_74
                  refine lv_iconst (v := 0) hx hb dL_change_437 (by decide) ?_
                  have hv9 : chg N Z v w = (0, N, Z) := by rw [hg]; unfold ch8; rw [if_neg (by first | assumption | omega | exact (fun q9 => by first | omega | exact absurd q9.2 (by assumption) | exact absurd q9.2.1 (by assumption) | exact absurd q9.2.2 (by assumption)))]
                  exact hret _ H _ _ _ _ _ (show some (Value.int 0) = some (Value.int ((chg N Z v w).1)) ∧ wst G T q a (chg N Z v w).2.1 (chg N Z v w).2.2 b tx L cu er le nb nc H from ⟨by rw [hv9], by rw [hv9]; exact wst_id hsc hP⟩) rfl hS (Nat.le_of_ble_eq_true rfl) (Nat.le_of_ble_eq_true rfl) dL_change_438
                · replace c_74 := cn_nle (a := (N 0)) (b := 0) (by omega) (by omega) c_74
                  refine lv_aload_n hx hb dL_change_407 rfl (lv_at hl 2 rfl) ?_
                  refine lv_iload hx hb dL_change_408 (lv_at hl 9 rfl) ?_
                  refine lv_iconst (v := 1) hx hb dL_change_410 (by decide) ?_
                  refine rn_V S hkx hth (nX5_version l hl0 (sa := sa) (h9 := (fun q h => hA q (Nat.le_trans hS.1 h))) (hP := hP) (hwf := hwf) (hv := (chA_lt (by omega))) (hw := (by omega)) (v := (chA N v)) (w := 1)) gL_change_X5_version rfl idX5_version ⟨Nat.le_of_ble_eq_true rfl, Nat.le_of_ble_eq_true rfl⟩ hP 0 rfl rfl rfl rfl hl.1 rfl (Nat.le_of_ble_eq_true rfl) dL_change_411 ⟨Nat.le_of_ble_eq_true rfl, Nat.le_of_ble_eq_true rfl⟩ (fun v9 hv9 => ?_)
                  subst hv9
                  refine W.eq (g2 := F0 m 414 ls [.int (Z 2 (chA N v))]) rfl ?_
                  refine lv_sipush (v := 900) hx hb dL_change_414 (by decide) ?_
                  refine lv_icmp_ge (tgt := 437) hx hb dL_change_417 (by decide) (fun c_75 => ?_) (fun c_75 => ?_)
                  · have c_75n := Int32.not_lt.mpr c_75
                    refine lv_iconst (v := 0) hx hb dL_change_437 (by decide) ?_
                    have hv9 : chg N Z v w = (0, N, Z) := by rw [hg]; unfold ch8; rw [if_neg (by first | assumption | omega | exact (fun q9 => by first | omega | exact absurd q9.2 (by assumption) | exact absurd q9.2.1 (by assumption) | exact absurd q9.2.2 (by assumption)))]
                    exact hret _ H _ _ _ _ _ (show some (Value.int 0) = some (Value.int ((chg N Z v w).1)) ∧ wst G T q a (chg N Z v w).2.1 (chg N Z v w).2.2 b tx L cu er le nb nc H from ⟨by rw [hv9], by rw [hv9]; exact wst_id hsc hP⟩) rfl hS (Nat.le_of_ble_eq_true rfl) (Nat.le_of_ble_eq_true rfl) dL_change_438
                  · have c_75n := Int32.not_le.mp c_75
                    refine lv_aload_n hx hb dL_change_420 rfl (lv_at hl 2 rfl) ?_
                    refine lv_iload hx hb dL_change_421 (lv_at hl 9 rfl) ?_
                    refine lv_iconst (v := 1) hx hb dL_change_423 (by decide) ?_
                    refine lv_iload_n hx hb dL_change_424 rfl (lv_at hl 4 rfl) ?_
                    refine lv_bipush (v := 99) hx hb dL_change_425 (by decide) ?_
                    refine ro_S S hkx (mL_low l (v := w) (k := 99) (h0 := (by omega)) (hk := (by omega))) gL_change_L_low rfl idL_low.2 ⟨Nat.le_of_ble_eq_true rfl, Nat.le_of_ble_eq_true rfl⟩ rfl hl.1 rfl (Nat.le_of_ble_eq_true rfl) dL_change_427 ⟨Nat.le_of_ble_eq_true rfl, Nat.le_of_ble_eq_true rfl⟩ (fun r9 hr9 => ?_)
                    subst hr9
                    refine W.eq (g2 := F0 m 430 ls [.int (nI (lowN w 99)), .int 1, .int (nI (chA N v)), .ref (q 0)]) rfl ?_
                    refine lv_iadd hx hb dL_change_430 ?_
                    refine W.eq (g2 := F0 m 431 ls [.int (nI (1 + (lowN w 99))), .int (nI (chA N v)), .ref (q 0)]) (congrArg (fun z9 => F0 m 431 ls (.int z9 :: [.int (nI (chA N v)), .ref (q 0)])) (nI_add 1 _)) ?_
                    refine wn_V S hkx hth (nX5_extend l hl0 (sa := sa) (A9 := A) (h9 := (fun q h => hA q (Nat.le_trans hS.1 h))) (hP := hP) (hD := hD.weaken (fun _ _ _ _ => trivial)) (hwf := hwf) (hsc := (by omega)) (hv := (chA_lt (by omega))) (ht1 := (by omega)) (ht := (by omega)) (h9d := (ex_rng hwf (chA_lt (by omega)) (by assumption) (by omega))) (v := (chA N v)) (t := (1 + (lowN w 99)))) gL_change_X5_extend rfl idX5_extend ⟨Nat.le_of_ble_eq_true rfl, Nat.le_of_ble_eq_true rfl⟩ hP 0 rfl rfl rfl rfl hl.1 rfl (Nat.le_of_ble_eq_true rfl) dL_change_431 ⟨Nat.le_of_ble_eq_true rfl, Nat.le_of_ble_eq_true rfl⟩ hS (fr_in hD (fun q h => hA q (Nat.le_trans hS.1 h))) (fun v9 H locs hp9 hz1 hk1 hS => ?_)
                    obtain ⟨rfl, hP⟩ := hp9
                    have hP : va_P G vwCl (wMain T q a N (vExt Z (chA N v) (nI (1 + (lowN w 99)))) (svB sc b) (psh sc M N) (psh sc Y Z) (svC sc) tx L cu er le nb nc) H := hP
                    have hD : va_D A (wMain T q a N (vExt Z (chA N v) (nI (1 + (lowN w 99)))) (svB sc b) (psh sc M N) (psh sc Y Z) (svC sc) tx L cu er le nb nc) := D_perm hD sv_addr
                    have hth := hth0.kept hS.2.1
                    refine W.eq (g2 := F0 m 434 ls [.int (vExt Z (chA N v) (nI (1 + (lowN w 99))) 2 (chA N v))]) rfl ?_
                    refine lv_goto (tgt := 438) hx hb dL_change_434 (by decide) ?_
                    have hv9 : chg N Z v w = ((vExt Z (chA N v) (nI (1 + (lowN w 99))) 2 (chA N v)), N, (vExt Z (chA N v) (nI (1 + (lowN w 99))))) := by rw [hg]; unfold ch8; rw [if_pos (by first | assumption | omega | exact ⟨by first | assumption | omega, by first | assumption | omega⟩ | exact ⟨by first | assumption | omega, by first | assumption | omega, by first | assumption | omega⟩)]
                    exact hret _ H _ _ _ _ _ (show some (Value.int (vExt Z (chA N v) (nI (1 + (lowN w 99))) 2 (chA N v))) = some (Value.int ((chg N Z v w).1)) ∧ wst G T q a (chg N Z v w).2.1 (chg N Z v w).2.2 b tx L cu er le nb nc H from ⟨by rw [hv9], by rw [hv9]; exact wst_sv hsc hP⟩) rfl hS (Nat.le_of_ble_eq_true rfl) (Nat.le_of_ble_eq_true rfl) dL_change_438
              · refine lv_tableIn (off := 347) (tgt := 439) hx hb dL_change_92 (by decide) (by decide) rfl (by decide) ?_
                have hg : chg N Z v w = ch9 N Z v w := by unfold chg; rw [hcz]; rfl
                refine lv_iload_n hx hb dL_change_439 rfl (lv_at hl 4 rfl) ?_
                refine lv_sipush (v := 600) hx hb dL_change_440 (by decide) ?_
                refine ro_S S hkx (mL_low l (v := w) (k := 600) (h0 := (by omega)) (hk := (by omega))) gL_change_L_low rfl idL_low.2 ⟨Nat.le_of_ble_eq_true rfl, Nat.le_of_ble_eq_true rfl⟩ rfl hl.1 rfl (Nat.le_of_ble_eq_true rfl) dL_change_443 ⟨Nat.le_of_ble_eq_true rfl, Nat.le_of_ble_eq_true rfl⟩ (fun r9 hr9 => ?_)
                subst hr9
                refine W.eq (g2 := F0 m 446 ls [.int (nI (lowN w 600))]) rfl ?_
                refine lv_istore (lv' := [(10, .int (nI (lowN w 600))), (9, .int (nI (lowN w 200))), (8, .int (nI (chF N v))), (0, .ref (q 0)), (1, .int v), (2, .int w), (3, .int (nI (N 0))), (4, .int (nI (N 1))), (5, .int (nI (N 2))), (6, .int (nI (chU N v))), (7, .int (nI (chA N v)))]) hx hb dL_change_446 hl (by decide) rfl (fun ls hl => ?_)
                refine lv_iload_n hx hb dL_change_448 rfl (lv_at hl 6 rfl) ?_
                refine lv_if_le (tgt := 506) hx hb dL_change_449 (by decide) (fun c_76 => ?_) (fun c_76 => ?_)
                · replace c_76 := cn_le (a := (N 0)) (b := 0) (by omega) (by omega) c_76
                  refine lv_iconst (v := 0) hx hb dL_change_506 (by decide) ?_
                  have hv9 : chg N Z v w = (0, N, Z) := by rw [hg]; unfold ch9; rw [if_neg (by first | assumption | omega | exact (fun q9 => by first | omega | exact absurd q9.2 (by assumption) | exact absurd q9.2.1 (by assumption) | exact absurd q9.2.2 (by assumption)))]
                  exact hret _ H _ _ _ _ _ (show some (Value.int 0) = some (Value.int ((chg N Z v w).1)) ∧ wst G T q a (chg N Z v w).2.1 (chg N Z v w).2.2 b tx L cu er le nb nc H from ⟨by rw [hv9], by rw [hv9]; exact wst_id hsc hP⟩) rfl hS (Nat.le_of_ble_eq_true rfl) (Nat.le_of_ble_eq_true rfl) dL_change_507
                · replace c_76 := cn_nle (a := (N 0)) (b := 0) (by omega) (by omega) c_76
                  refine lv_iload hx hb dL_change_452 (lv_at hl 7 rfl) ?_
                  refine lv_if_le (tgt := 506) hx hb dL_change_454 (by decide) (fun c_77 => ?_) (fun c_77 => ?_)
                  · replace c_77 := cn_le (a := (N 1)) (b := 0) (by omega) (by omega) c_77
                    refine lv_iconst (v := 0) hx hb dL_change_506 (by decide) ?_
                    have hv9 : chg N Z v w = (0, N, Z) := by rw [hg]; unfold ch9; rw [if_neg (by first | assumption | omega | exact (fun q9 => by first | omega | exact absurd q9.2 (by assumption) | exact absurd q9.2.1 (by assumption) | exact absurd q9.2.2 (by assumption)))]
                    exact hret _ H _ _ _ _ _ (show some (Value.int 0) = some (Value.int ((chg N Z v w).1)) ∧ wst G T q a (chg N Z v w).2.1 (chg N Z v w).2.2 b tx L cu er le nb nc H from ⟨by rw [hv9], by rw [hv9]; exact wst_id hsc hP⟩) rfl hS (Nat.le_of_ble_eq_true rfl) (Nat.le_of_ble_eq_true rfl) dL_change_507
                  · replace c_77 := cn_nle (a := (N 1)) (b := 0) (by omega) (by omega) c_77
                    refine lv_aload_n hx hb dL_change_457 rfl (lv_at hl 3 rfl) ?_
                    refine lv_iconst (v := 3) hx hb dL_change_458 (by decide) ?_
                    refine rn_V S hkx hth (nX5_value l hl0 (sa := sa) (h9 := (fun q h => hA q (Nat.le_trans hS.1 h))) (hP := hP) (hwf := hwf) (hw := (by omega)) (w := 3)) gL_change_X5_value rfl idX5_value ⟨Nat.le_of_ble_eq_true rfl, Nat.le_of_ble_eq_true rfl⟩ hP 0 rfl rfl rfl rfl hl.1 rfl (Nat.le_of_ble_eq_true rfl) dL_change_459 ⟨Nat.le_of_ble_eq_true rfl, Nat.le_of_ble_eq_true rfl⟩ (fun v9 hv9 => ?_)
                    subst hv9
                    refine W.eq (g2 := F0 m 462 ls [.int (nI (N 3))]) rfl ?_
                    refine lv_bipush (v := 6) hx hb dL_change_462 (by decide) ?_
                    refine lv_icmp_ge (tgt := 506) hx hb dL_change_464 (by decide) (fun c_78 => ?_) (fun c_78 => ?_)
                    · replace c_78 := cn_le (a := 6) (b := (N 3)) (by omega) (by omega) c_78
                      refine lv_iconst (v := 0) hx hb dL_change_506 (by decide) ?_
                      have hv9 : chg N Z v w = (0, N, Z) := by rw [hg]; unfold ch9; rw [if_neg (by first | assumption | omega | exact (fun q9 => by first | omega | exact absurd q9.2 (by assumption) | exact absurd q9.2.1 (by assumption) | exact absurd q9.2.2 (by assumption)))]
                      exact hret _ H _ _ _ _ _ (show some (Value.int 0) = some (Value.int ((chg N Z v w).1)) ∧ wst G T q a (chg N Z v w).2.1 (chg N Z v w).2.2 b tx L cu er le nb nc H from ⟨by rw [hv9], by rw [hv9]; exact wst_id hsc hP⟩) rfl hS (Nat.le_of_ble_eq_true rfl) (Nat.le_of_ble_eq_true rfl) dL_change_507
                    · replace c_78 := cn_nle (a := 6) (b := (N 3)) (by omega) (by omega) c_78
                      refine lv_aload_n hx hb dL_change_467 rfl (lv_at hl 3 rfl) ?_
                      refine lv_iload hx hb dL_change_468 (lv_at hl 2 rfl) ?_
                      refine lv_iload hx hb dL_change_470 (lv_at hl 10 rfl) ?_
                      refine lv_iload hx hb dL_change_472 (lv_at hl 0 rfl) ?_
                      refine lv_iload hx hb dL_change_474 (lv_at hl 0 rfl) ?_
                      refine lv_iload_n hx hb dL_change_476 rfl (lv_at hl 5 rfl) ?_
                      refine lv_bipush (v := 10) hx hb dL_change_477 (by decide) ?_
                      refine lv_ishr hx hb dL_change_479 ?_
                      refine lv_sipush (v := 1000) hx hb dL_change_480 (by decide) ?_
                      refine lv_iload hx hb dL_change_483 (lv_at hl 0 rfl) ?_
                      refine lv_isub hx hb dL_change_485 ?_
                      refine W.eq (g2 := F0 m 486 ls [.int (nI (1000 - (lowN w 600))), .int (w >>> (10 &&& 31)), .int (nI (lowN w 600)), .int (nI (lowN w 600)), .int (nI (chA N v)), .int (nI (chF N v)), .ref (q 0)]) (congrArg (fun z9 => F0 m 486 ls (.int z9 :: [.int (w >>> (10 &&& 31)), .int (nI (lowN w 600)), .int (nI (lowN w 600)), .int (nI (chA N v)), .int (nI (chF N v)), .ref (q 0)])) (pk_sub (a := 1000) (b := (lowN w 600)) (by omega))) ?_
                      refine ro_S S hkx (mL_low l (v := (w >>> (10 &&& 31))) (k := (1000 - (lowN w 600))) (h0 := (by omega)) (hk := (by omega))) gL_change_L_low rfl idL_low.2 ⟨Nat.le_of_ble_eq_true rfl, Nat.le_of_ble_eq_true rfl⟩ rfl hl.1 rfl (Nat.le_of_ble_eq_true rfl) dL_change_486 ⟨Nat.le_of_ble_eq_true rfl, Nat.le_of_ble_eq_true rfl⟩ (fun r9 hr9 => ?_)
                      subst hr9
                      refine W.eq (g2 := F0 m 489 ls [.int (nI (lowN (w >>> (10 &&& 31)) (1000 - (lowN w 600)))), .int (nI (lowN w 600)), .int (nI (lowN w 600)), .int (nI (chA N v)), .int (nI (chF N v)), .ref (q 0)]) rfl ?_
                      refine lv_iadd hx hb dL_change_489 ?_
                      refine W.eq (g2 := F0 m 490 ls [.int (nI ((lowN w 600) + (lowN (w >>> (10 &&& 31)) (1000 - (lowN w 600))))), .int (nI (lowN w 600)), .int (nI (chA N v)), .int (nI (chF N v)), .ref (q 0)]) (congrArg (fun z9 => F0 m 490 ls (.int z9 :: [.int (nI (lowN w 600)), .int (nI (chA N v)), .int (nI (chF N v)), .ref (q 0)])) (nI_add _ _)) ?_
                      refine lv_iconst (v := 1) hx hb dL_change_490 (by decide) ?_
                      refine lv_iload_n hx hb dL_change_491 rfl (lv_at hl 5 rfl) ?_
                      refine lv_iconst (v := 4) hx hb dL_change_492 (by decide) ?_
                      refine lv_ishr hx hb dL_change_493 ?_
                      refine lv_bipush (v := 99) hx hb dL_change_494 (by decide) ?_
                      refine ro_S S hkx (mL_low l (v := (w >>> (4 &&& 31))) (k := 99) (h0 := (by omega)) (hk := (by omega))) gL_change_L_low rfl idL_low.2 ⟨Nat.le_of_ble_eq_true rfl, Nat.le_of_ble_eq_true rfl⟩ rfl hl.1 rfl (Nat.le_of_ble_eq_true rfl) dL_change_496 ⟨Nat.le_of_ble_eq_true rfl, Nat.le_of_ble_eq_true rfl⟩ (fun r9 hr9 => ?_)
                      subst hr9
                      refine W.eq (g2 := F0 m 499 ls [.int (nI (lowN (w >>> (4 &&& 31)) 99)), .int 1, .int (nI ((lowN w 600) + (lowN (w >>> (10 &&& 31)) (1000 - (lowN w 600))))), .int (nI (lowN w 600)), .int (nI (chA N v)), .int (nI (chF N v)), .ref (q 0)]) rfl ?_
                      refine lv_iadd hx hb dL_change_499 ?_
                      refine W.eq (g2 := F0 m 500 ls [.int (nI (1 + (lowN (w >>> (4 &&& 31)) 99))), .int (nI ((lowN w 600) + (lowN (w >>> (10 &&& 31)) (1000 - (lowN w 600))))), .int (nI (lowN w 600)), .int (nI (chA N v)), .int (nI (chF N v)), .ref (q 0)]) (congrArg (fun z9 => F0 m 500 ls (.int z9 :: [.int (nI ((lowN w 600) + (lowN (w >>> (10 &&& 31)) (1000 - (lowN w 600))))), .int (nI (lowN w 600)), .int (nI (chA N v)), .int (nI (chF N v)), .ref (q 0)])) (nI_add 1 _)) ?_
                      refine wn_V S hkx hth (nX5_addShim l hl0 (sa := sa) (A9 := A) (h9 := (fun q h => hA q (Nat.le_trans hS.1 h))) (hP := hP) (hD := hD.weaken (fun _ _ _ _ => trivial)) (hwf := hwf) (hsc := (by omega)) (hf := (chF_lt (by omega))) (hv := (chA_lt (by omega))) (hx := (by omega)) (hz := (by omega)) (hy1 := (by omega)) (hy := (by omega)) (h8 := (by omega)) (f := (chF N v)) (v := (chA N v)) (x := (lowN w 600)) (z := ((lowN w 600) + (lowN (w >>> (10 &&& 31)) (1000 - (lowN w 600))))) (y := (1 + (lowN (w >>> (4 &&& 31)) 99)))) gL_change_X5_addShim rfl idX5_addShim ⟨Nat.le_of_ble_eq_true rfl, Nat.le_of_ble_eq_true rfl⟩ hP 0 rfl rfl rfl rfl hl.1 rfl (Nat.le_of_ble_eq_true rfl) dL_change_500 ⟨Nat.le_of_ble_eq_true rfl, Nat.le_of_ble_eq_true rfl⟩ hS (fr_in hD (fun q h => hA q (Nat.le_trans hS.1 h))) (fun v9 H locs hp9 hz1 hk1 hS => ?_)
                      obtain ⟨rfl, hP⟩ := hp9
                      have hP : va_P G vwCl (wMain T q a (va_up N 3 (N 3 + 1)) (sAdd N Z (nI (chF N v)) (nI (chA N v)) (nI (lowN w 600)) (nI ((lowN w 600) + (lowN (w >>> (10 &&& 31)) (1000 - (lowN w 600))))) (nI (1 + (lowN (w >>> (4 &&& 31)) 99)))) (svB sc b) (psh sc M N) (psh sc Y Z) (svC sc) tx L cu er le nb nc) H := hP
                      have hD : va_D A (wMain T q a (va_up N 3 (N 3 + 1)) (sAdd N Z (nI (chF N v)) (nI (chA N v)) (nI (lowN w 600)) (nI ((lowN w 600) + (lowN (w >>> (10 &&& 31)) (1000 - (lowN w 600))))) (nI (1 + (lowN (w >>> (4 &&& 31)) 99)))) (svB sc b) (psh sc M N) (psh sc Y Z) (svC sc) tx L cu er le nb nc) := D_perm hD sv_addr
                      have hth := hth0.kept hS.2.1
                      refine W.eq (g2 := F0 m 503 ls [.int (nI (N 3))]) rfl ?_
                      refine lv_goto (tgt := 507) hx hb dL_change_503 (by decide) ?_
                      have hv9 : chg N Z v w = ((nI (N 3)), (va_up N 3 (N 3 + 1)), (sAdd N Z (nI (chF N v)) (nI (chA N v)) (nI (lowN w 600)) (nI ((lowN w 600) + (lowN (w >>> (10 &&& 31)) (1000 - (lowN w 600))))) (nI (1 + (lowN (w >>> (4 &&& 31)) 99))))) := by rw [hg]; unfold ch9; rw [if_pos (by first | assumption | omega | exact ⟨by first | assumption | omega, by first | assumption | omega⟩ | exact ⟨by first | assumption | omega, by first | assumption | omega, by first | assumption | omega⟩)]
                      exact hret _ H _ _ _ _ _ (show some (Value.int (nI (N 3))) = some (Value.int ((chg N Z v w).1)) ∧ wst G T q a (chg N Z v w).2.1 (chg N Z v w).2.2 b tx L cu er le nb nc H from ⟨by rw [hv9], by rw [hv9]; exact wst_sv hsc hP⟩) rfl hS (Nat.le_of_ble_eq_true rfl) (Nat.le_of_ble_eq_true rfl) dL_change_507
              · refine lv_tableIn (off := 347) (tgt := 439) hx hb dL_change_92 (by decide) (by decide) rfl (by decide) ?_
                have hg : chg N Z v w = ch9 N Z v w := by unfold chg; rw [hcz]; rfl
                refine lv_iload_n hx hb dL_change_439 rfl (lv_at hl 4 rfl) ?_
                refine lv_sipush (v := 600) hx hb dL_change_440 (by decide) ?_
                refine ro_S S hkx (mL_low l (v := w) (k := 600) (h0 := (by omega)) (hk := (by omega))) gL_change_L_low rfl idL_low.2 ⟨Nat.le_of_ble_eq_true rfl, Nat.le_of_ble_eq_true rfl⟩ rfl hl.1 rfl (Nat.le_of_ble_eq_true rfl) dL_change_443 ⟨Nat.le_of_ble_eq_true rfl, Nat.le_of_ble_eq_true rfl⟩ (fun r9 hr9 => ?_)
                subst hr9
                refine W.eq (g2 := F0 m 446 ls [.int (nI (lowN w 600))]) rfl ?_
                refine lv_istore (lv' := [(10, .int (nI (lowN w 600))), (9, .int (nI (lowN w 200))), (8, .int (nI (chF N v))), (0, .ref (q 0)), (1, .int v), (2, .int w), (3, .int (nI (N 0))), (4, .int (nI (N 1))), (5, .int (nI (N 2))), (6, .int (nI (chU N v))), (7, .int (nI (chA N v)))]) hx hb dL_change_446 hl (by decide) rfl (fun ls hl => ?_)
                refine lv_iload_n hx hb dL_change_448 rfl (lv_at hl 6 rfl) ?_
                refine lv_if_le (tgt := 506) hx hb dL_change_449 (by decide) (fun c_79 => ?_) (fun c_79 => ?_)
                · replace c_79 := cn_le (a := (N 0)) (b := 0) (by omega) (by omega) c_79
                  refine lv_iconst (v := 0) hx hb dL_change_506 (by decide) ?_
                  have hv9 : chg N Z v w = (0, N, Z) := by rw [hg]; unfold ch9; rw [if_neg (by first | assumption | omega | exact (fun q9 => by first | omega | exact absurd q9.2 (by assumption) | exact absurd q9.2.1 (by assumption) | exact absurd q9.2.2 (by assumption)))]
                  exact hret _ H _ _ _ _ _ (show some (Value.int 0) = some (Value.int ((chg N Z v w).1)) ∧ wst G T q a (chg N Z v w).2.1 (chg N Z v w).2.2 b tx L cu er le nb nc H from ⟨by rw [hv9], by rw [hv9]; exact wst_id hsc hP⟩) rfl hS (Nat.le_of_ble_eq_true rfl) (Nat.le_of_ble_eq_true rfl) dL_change_507
                · replace c_79 := cn_nle (a := (N 0)) (b := 0) (by omega) (by omega) c_79
                  refine lv_iload hx hb dL_change_452 (lv_at hl 7 rfl) ?_
                  refine lv_if_le (tgt := 506) hx hb dL_change_454 (by decide) (fun c_80 => ?_) (fun c_80 => ?_)
                  · replace c_80 := cn_le (a := (N 1)) (b := 0) (by omega) (by omega) c_80
                    refine lv_iconst (v := 0) hx hb dL_change_506 (by decide) ?_
                    have hv9 : chg N Z v w = (0, N, Z) := by rw [hg]; unfold ch9; rw [if_neg (by first | assumption | omega | exact (fun q9 => by first | omega | exact absurd q9.2 (by assumption) | exact absurd q9.2.1 (by assumption) | exact absurd q9.2.2 (by assumption)))]
                    exact hret _ H _ _ _ _ _ (show some (Value.int 0) = some (Value.int ((chg N Z v w).1)) ∧ wst G T q a (chg N Z v w).2.1 (chg N Z v w).2.2 b tx L cu er le nb nc H from ⟨by rw [hv9], by rw [hv9]; exact wst_id hsc hP⟩) rfl hS (Nat.le_of_ble_eq_true rfl) (Nat.le_of_ble_eq_true rfl) dL_change_507
                  · replace c_80 := cn_nle (a := (N 1)) (b := 0) (by omega) (by omega) c_80
                    refine lv_aload_n hx hb dL_change_457 rfl (lv_at hl 3 rfl) ?_
                    refine lv_iconst (v := 3) hx hb dL_change_458 (by decide) ?_
                    refine rn_V S hkx hth (nX5_value l hl0 (sa := sa) (h9 := (fun q h => hA q (Nat.le_trans hS.1 h))) (hP := hP) (hwf := hwf) (hw := (by omega)) (w := 3)) gL_change_X5_value rfl idX5_value ⟨Nat.le_of_ble_eq_true rfl, Nat.le_of_ble_eq_true rfl⟩ hP 0 rfl rfl rfl rfl hl.1 rfl (Nat.le_of_ble_eq_true rfl) dL_change_459 ⟨Nat.le_of_ble_eq_true rfl, Nat.le_of_ble_eq_true rfl⟩ (fun v9 hv9 => ?_)
                    subst hv9
                    refine W.eq (g2 := F0 m 462 ls [.int (nI (N 3))]) rfl ?_
                    refine lv_bipush (v := 6) hx hb dL_change_462 (by decide) ?_
                    refine lv_icmp_ge (tgt := 506) hx hb dL_change_464 (by decide) (fun c_81 => ?_) (fun c_81 => ?_)
                    · replace c_81 := cn_le (a := 6) (b := (N 3)) (by omega) (by omega) c_81
                      refine lv_iconst (v := 0) hx hb dL_change_506 (by decide) ?_
                      have hv9 : chg N Z v w = (0, N, Z) := by rw [hg]; unfold ch9; rw [if_neg (by first | assumption | omega | exact (fun q9 => by first | omega | exact absurd q9.2 (by assumption) | exact absurd q9.2.1 (by assumption) | exact absurd q9.2.2 (by assumption)))]
                      exact hret _ H _ _ _ _ _ (show some (Value.int 0) = some (Value.int ((chg N Z v w).1)) ∧ wst G T q a (chg N Z v w).2.1 (chg N Z v w).2.2 b tx L cu er le nb nc H from ⟨by rw [hv9], by rw [hv9]; exact wst_id hsc hP⟩) rfl hS (Nat.le_of_ble_eq_true rfl) (Nat.le_of_ble_eq_true rfl) dL_change_507
                    · replace c_81 := cn_nle (a := 6) (b := (N 3)) (by omega) (by omega) c_81
                      refine lv_aload_n hx hb dL_change_467 rfl (lv_at hl 3 rfl) ?_
                      refine lv_iload hx hb dL_change_468 (lv_at hl 2 rfl) ?_
                      refine lv_iload hx hb dL_change_470 (lv_at hl 10 rfl) ?_
                      refine lv_iload hx hb dL_change_472 (lv_at hl 0 rfl) ?_
                      refine lv_iload hx hb dL_change_474 (lv_at hl 0 rfl) ?_
                      refine lv_iload_n hx hb dL_change_476 rfl (lv_at hl 5 rfl) ?_
                      refine lv_bipush (v := 10) hx hb dL_change_477 (by decide) ?_
                      refine lv_ishr hx hb dL_change_479 ?_
                      refine lv_sipush (v := 1000) hx hb dL_change_480 (by decide) ?_
                      refine lv_iload hx hb dL_change_483 (lv_at hl 0 rfl) ?_
                      refine lv_isub hx hb dL_change_485 ?_
                      refine W.eq (g2 := F0 m 486 ls [.int (nI (1000 - (lowN w 600))), .int (w >>> (10 &&& 31)), .int (nI (lowN w 600)), .int (nI (lowN w 600)), .int (nI (chA N v)), .int (nI (chF N v)), .ref (q 0)]) (congrArg (fun z9 => F0 m 486 ls (.int z9 :: [.int (w >>> (10 &&& 31)), .int (nI (lowN w 600)), .int (nI (lowN w 600)), .int (nI (chA N v)), .int (nI (chF N v)), .ref (q 0)])) (pk_sub (a := 1000) (b := (lowN w 600)) (by omega))) ?_
                      refine ro_S S hkx (mL_low l (v := (w >>> (10 &&& 31))) (k := (1000 - (lowN w 600))) (h0 := (by omega)) (hk := (by omega))) gL_change_L_low rfl idL_low.2 ⟨Nat.le_of_ble_eq_true rfl, Nat.le_of_ble_eq_true rfl⟩ rfl hl.1 rfl (Nat.le_of_ble_eq_true rfl) dL_change_486 ⟨Nat.le_of_ble_eq_true rfl, Nat.le_of_ble_eq_true rfl⟩ (fun r9 hr9 => ?_)
                      subst hr9
                      refine W.eq (g2 := F0 m 489 ls [.int (nI (lowN (w >>> (10 &&& 31)) (1000 - (lowN w 600)))), .int (nI (lowN w 600)), .int (nI (lowN w 600)), .int (nI (chA N v)), .int (nI (chF N v)), .ref (q 0)]) rfl ?_
                      refine lv_iadd hx hb dL_change_489 ?_
                      refine W.eq (g2 := F0 m 490 ls [.int (nI ((lowN w 600) + (lowN (w >>> (10 &&& 31)) (1000 - (lowN w 600))))), .int (nI (lowN w 600)), .int (nI (chA N v)), .int (nI (chF N v)), .ref (q 0)]) (congrArg (fun z9 => F0 m 490 ls (.int z9 :: [.int (nI (lowN w 600)), .int (nI (chA N v)), .int (nI (chF N v)), .ref (q 0)])) (nI_add _ _)) ?_
                      refine lv_iconst (v := 1) hx hb dL_change_490 (by decide) ?_
                      refine lv_iload_n hx hb dL_change_491 rfl (lv_at hl 5 rfl) ?_
                      refine lv_iconst (v := 4) hx hb dL_change_492 (by decide) ?_
                      refine lv_ishr hx hb dL_change_493 ?_
                      refine lv_bipush (v := 99) hx hb dL_change_494 (by decide) ?_
                      refine ro_S S hkx (mL_low l (v := (w >>> (4 &&& 31))) (k := 99) (h0 := (by omega)) (hk := (by omega))) gL_change_L_low rfl idL_low.2 ⟨Nat.le_of_ble_eq_true rfl, Nat.le_of_ble_eq_true rfl⟩ rfl hl.1 rfl (Nat.le_of_ble_eq_true rfl) dL_change_496 ⟨Nat.le_of_ble_eq_true rfl, Nat.le_of_ble_eq_true rfl⟩ (fun r9 hr9 => ?_)
                      subst hr9
                      refine W.eq (g2 := F0 m 499 ls [.int (nI (lowN (w >>> (4 &&& 31)) 99)), .int 1, .int (nI ((lowN w 600) + (lowN (w >>> (10 &&& 31)) (1000 - (lowN w 600))))), .int (nI (lowN w 600)), .int (nI (chA N v)), .int (nI (chF N v)), .ref (q 0)]) rfl ?_
                      refine lv_iadd hx hb dL_change_499 ?_
                      refine W.eq (g2 := F0 m 500 ls [.int (nI (1 + (lowN (w >>> (4 &&& 31)) 99))), .int (nI ((lowN w 600) + (lowN (w >>> (10 &&& 31)) (1000 - (lowN w 600))))), .int (nI (lowN w 600)), .int (nI (chA N v)), .int (nI (chF N v)), .ref (q 0)]) (congrArg (fun z9 => F0 m 500 ls (.int z9 :: [.int (nI ((lowN w 600) + (lowN (w >>> (10 &&& 31)) (1000 - (lowN w 600))))), .int (nI (lowN w 600)), .int (nI (chA N v)), .int (nI (chF N v)), .ref (q 0)])) (nI_add 1 _)) ?_
                      refine wn_V S hkx hth (nX5_addShim l hl0 (sa := sa) (A9 := A) (h9 := (fun q h => hA q (Nat.le_trans hS.1 h))) (hP := hP) (hD := hD.weaken (fun _ _ _ _ => trivial)) (hwf := hwf) (hsc := (by omega)) (hf := (chF_lt (by omega))) (hv := (chA_lt (by omega))) (hx := (by omega)) (hz := (by omega)) (hy1 := (by omega)) (hy := (by omega)) (h8 := (by omega)) (f := (chF N v)) (v := (chA N v)) (x := (lowN w 600)) (z := ((lowN w 600) + (lowN (w >>> (10 &&& 31)) (1000 - (lowN w 600))))) (y := (1 + (lowN (w >>> (4 &&& 31)) 99)))) gL_change_X5_addShim rfl idX5_addShim ⟨Nat.le_of_ble_eq_true rfl, Nat.le_of_ble_eq_true rfl⟩ hP 0 rfl rfl rfl rfl hl.1 rfl (Nat.le_of_ble_eq_true rfl) dL_change_500 ⟨Nat.le_of_ble_eq_true rfl, Nat.le_of_ble_eq_true rfl⟩ hS (fr_in hD (fun q h => hA q (Nat.le_trans hS.1 h))) (fun v9 H locs hp9 hz1 hk1 hS => ?_)
                      obtain ⟨rfl, hP⟩ := hp9
                      have hP : va_P G vwCl (wMain T q a (va_up N 3 (N 3 + 1)) (sAdd N Z (nI (chF N v)) (nI (chA N v)) (nI (lowN w 600)) (nI ((lowN w 600) + (lowN (w >>> (10 &&& 31)) (1000 - (lowN w 600))))) (nI (1 + (lowN (w >>> (4 &&& 31)) 99)))) (svB sc b) (psh sc M N) (psh sc Y Z) (svC sc) tx L cu er le nb nc) H := hP
                      have hD : va_D A (wMain T q a (va_up N 3 (N 3 + 1)) (sAdd N Z (nI (chF N v)) (nI (chA N v)) (nI (lowN w 600)) (nI ((lowN w 600) + (lowN (w >>> (10 &&& 31)) (1000 - (lowN w 600))))) (nI (1 + (lowN (w >>> (4 &&& 31)) 99)))) (svB sc b) (psh sc M N) (psh sc Y Z) (svC sc) tx L cu er le nb nc) := D_perm hD sv_addr
                      have hth := hth0.kept hS.2.1
                      refine W.eq (g2 := F0 m 503 ls [.int (nI (N 3))]) rfl ?_
                      refine lv_goto (tgt := 507) hx hb dL_change_503 (by decide) ?_
                      have hv9 : chg N Z v w = ((nI (N 3)), (va_up N 3 (N 3 + 1)), (sAdd N Z (nI (chF N v)) (nI (chA N v)) (nI (lowN w 600)) (nI ((lowN w 600) + (lowN (w >>> (10 &&& 31)) (1000 - (lowN w 600))))) (nI (1 + (lowN (w >>> (4 &&& 31)) 99))))) := by rw [hg]; unfold ch9; rw [if_pos (by first | assumption | omega | exact ⟨by first | assumption | omega, by first | assumption | omega⟩ | exact ⟨by first | assumption | omega, by first | assumption | omega, by first | assumption | omega⟩)]
                      exact hret _ H _ _ _ _ _ (show some (Value.int (nI (N 3))) = some (Value.int ((chg N Z v w).1)) ∧ wst G T q a (chg N Z v w).2.1 (chg N Z v w).2.2 b tx L cu er le nb nc H from ⟨by rw [hv9], by rw [hv9]; exact wst_sv hsc hP⟩) rfl hS (Nat.le_of_ble_eq_true rfl) (Nat.le_of_ble_eq_true rfl) dL_change_507
              · refine lv_tableOut (tgt := 508) hx hb dL_change_92 (Or.inr (by decide)) (by decide) ?_
                have hg : chg N Z v w = chB N Z w := by unfold chg; rw [hcz]; rfl
                refine lv_aload_n hx hb dL_change_508 rfl (lv_at hl 2 rfl) ?_
                refine lv_iconst (v := 3) hx hb dL_change_509 (by decide) ?_
                refine rn_V S hkx hth (nX5_value l hl0 (sa := sa) (h9 := (fun q h => hA q (Nat.le_trans hS.1 h))) (hP := hP) (hwf := hwf) (hw := (by omega)) (w := 3)) gL_change_X5_value rfl idX5_value ⟨Nat.le_of_ble_eq_true rfl, Nat.le_of_ble_eq_true rfl⟩ hP 0 rfl rfl rfl rfl hl.1 rfl (Nat.le_of_ble_eq_true rfl) dL_change_510 ⟨Nat.le_of_ble_eq_true rfl, Nat.le_of_ble_eq_true rfl⟩ (fun v9 hv9 => ?_)
                subst hv9
                refine W.eq (g2 := F0 m 513 ls [.int (nI (N 3))]) rfl ?_
                refine lv_if_le (tgt := 532) hx hb dL_change_513 (by decide) (fun c_82 => ?_) (fun c_82 => ?_)
                · replace c_82 := cn_le (a := (N 3)) (b := 0) (by omega) (by omega) c_82
                  refine lv_iconst (v := 0) hx hb dL_change_532 (by decide) ?_
                  have hv9 : chg N Z v w = (0, N, Z) := by rw [hg]; unfold chB; rw [if_neg (by first | assumption | omega | exact (fun q9 => by first | omega | exact absurd q9.2 (by assumption) | exact absurd q9.2.1 (by assumption) | exact absurd q9.2.2 (by assumption)))]
                  exact hret _ H _ _ _ _ _ (show some (Value.int 0) = some (Value.int ((chg N Z v w).1)) ∧ wst G T q a (chg N Z v w).2.1 (chg N Z v w).2.2 b tx L cu er le nb nc H from ⟨by rw [hv9], by rw [hv9]; exact wst_id hsc hP⟩) rfl hS (Nat.le_of_ble_eq_true rfl) (Nat.le_of_ble_eq_true rfl) dL_change_533
                · replace c_82 := cn_nle (a := (N 3)) (b := 0) (by omega) (by omega) c_82
                  refine lv_aload_n hx hb dL_change_516 rfl (lv_at hl 2 rfl) ?_
                  refine lv_iload_n hx hb dL_change_517 rfl (lv_at hl 4 rfl) ?_
                  refine lv_aload_n hx hb dL_change_518 rfl (lv_at hl 2 rfl) ?_
                  refine lv_iconst (v := 3) hx hb dL_change_519 (by decide) ?_
                  refine rn_V S hkx hth (nX5_value l hl0 (sa := sa) (h9 := (fun q h => hA q (Nat.le_trans hS.1 h))) (hP := hP) (hwf := hwf) (hw := (by omega)) (w := 3)) gL_change_X5_value rfl idX5_value ⟨Nat.le_of_ble_eq_true rfl, Nat.le_of_ble_eq_true rfl⟩ hP 0 rfl rfl rfl rfl hl.1 rfl (Nat.le_of_ble_eq_true rfl) dL_change_520 ⟨Nat.le_of_ble_eq_true rfl, Nat.le_of_ble_eq_true rfl⟩ (fun v9 hv9 => ?_)
                  subst hv9
                  refine W.eq (g2 := F0 m 523 ls [.int (nI (N 3)), .int w, .ref (q 0)]) rfl ?_
                  refine ro_S S hkx (mL_low l (v := w) (k := (N 3)) (h0 := (by omega)) (hk := (by omega))) gL_change_L_low rfl idL_low.2 ⟨Nat.le_of_ble_eq_true rfl, Nat.le_of_ble_eq_true rfl⟩ rfl hl.1 rfl (Nat.le_of_ble_eq_true rfl) dL_change_523 ⟨Nat.le_of_ble_eq_true rfl, Nat.le_of_ble_eq_true rfl⟩ (fun r9 hr9 => ?_)
                  subst hr9
                  refine W.eq (g2 := F0 m 526 ls [.int (nI (lowN w (N 3))), .ref (q 0)]) rfl ?_
                  refine wn_V S hkx hth (nX5_dropShim l hl0 (sa := sa) (A9 := A) (h9 := (fun q h => hA q (Nat.le_trans hS.1 h))) (hP := hP) (hD := hD.weaken (fun _ _ _ _ => trivial)) (hwf := hwf) (hsc := (by omega)) (ht := (lowN_lt w (by omega))) (t := (lowN w (N 3)))) gL_change_X5_dropShim rfl idX5_dropShim ⟨Nat.le_of_ble_eq_true rfl, Nat.le_of_ble_eq_true rfl⟩ hP 0 rfl rfl rfl rfl hl.1 rfl (Nat.le_of_ble_eq_true rfl) dL_change_526 ⟨Nat.le_of_ble_eq_true rfl, Nat.le_of_ble_eq_true rfl⟩ hS (fr_in hD (fun q h => hA q (Nat.le_trans hS.1 h))) (fun v9 H locs hp9 hz1 hk1 hS => ?_)
                  obtain ⟨rfl, hP⟩ := hp9
                  have hP : va_P G vwCl (wMain T q a (va_up N 3 (N 3 - 1)) (sDel Z (lowN w (N 3)) (N 3 - 1)) (svB sc b) (psh sc M N) (psh sc Y Z) (svC sc) tx L cu er le nb nc) H := hP
                  have hD : va_D A (wMain T q a (va_up N 3 (N 3 - 1)) (sDel Z (lowN w (N 3)) (N 3 - 1)) (svB sc b) (psh sc M N) (psh sc Y Z) (svC sc) tx L cu er le nb nc) := D_perm hD sv_addr
                  have hth := hth0.kept hS.2.1
                  refine W.eq (g2 := F0 m 529 ls [.int (nI (N 3 - 1))]) rfl ?_
                  refine lv_goto (tgt := 533) hx hb dL_change_529 (by decide) ?_
                  have hv9 : chg N Z v w = ((nI (N 3 - 1)), (va_up N 3 (N 3 - 1)), (sDel Z (lowN w (N 3)) (N 3 - 1))) := by rw [hg]; unfold chB; rw [if_pos (by first | assumption | omega | exact ⟨by first | assumption | omega, by first | assumption | omega⟩ | exact ⟨by first | assumption | omega, by first | assumption | omega, by first | assumption | omega⟩)]
                  exact hret _ H _ _ _ _ _ (show some (Value.int (nI (N 3 - 1))) = some (Value.int ((chg N Z v w).1)) ∧ wst G T q a (chg N Z v w).2.1 (chg N Z v w).2.2 b tx L cu er le nb nc H from ⟨by rw [hv9], by rw [hv9]; exact wst_sv hsc hP⟩) rfl hS (Nat.le_of_ble_eq_true rfl) (Nat.le_of_ble_eq_true rfl) dL_change_533
            exact L75   _ _ hP hD hS _ (lv_sub hl [1, 2, 3, 4, 5, 6, 7, 0] rfl)
          · replace c_56 := cn_eq (a := (N 1)) (b := 0) (by omega) (by omega) c_56
            refine lv_iconst (v := 0) hx hb dL_change_62 (by decide) ?_
            refine lv_goto (tgt := 75) hx hb dL_change_63 (by decide) ?_
            refine W.eq (g2 := F0 m 75 ls [.int (nI (chF N v))]) (congrArg (fun z9 => F0 m 75 ls (.int z9 :: [])) (by unfold chF; rw [if_pos c_56]; rfl)) ?_
            have L75 :  ∀ (H : Heap) (locs : List Loc), va_P G vwCl (wMain T q a N Z b M Y sc tx L cu er le nb nc) H → va_D A (wMain T q a N Z b M Y sc tx L cu er le nb nc) → va_S A H0 H locs → ∀ ls : Array Slot, lv_has ls 11 [(0, .ref (q 0)), (1, .int v), (2, .int w), (3, .int (nI (N 0))), (4, .int (nI (N 1))), (5, .int (nI (N 2))), (6, .int (nI (chU N v))), (7, .int (nI (chA N v)))] → W p l e (rmx 9 180 3) s m ([.ref (q 0), .int v, .int w] : List Value).toArray below meth c H locs 0 0 Q (F0 m 75 ls [.int (nI (chF N v))]) := by
              intro   H locs hP hD hS ls hl
              have hth := hth0.kept hS.2.1
              refine lv_istore (lv' := [(8, .int (nI (chF N v))), (0, .ref (q 0)), (1, .int v), (2, .int w), (3, .int (nI (N 0))), (4, .int (nI (N 1))), (5, .int (nI (N 2))), (6, .int (nI (chU N v))), (7, .int (nI (chA N v)))]) hx hb dL_change_75 hl (by decide) rfl (fun ls hl => ?_)
              refine lv_iload_n hx hb dL_change_77 rfl (lv_at hl 3 rfl) ?_
              refine lv_sipush (v := 200) hx hb dL_change_78 (by decide) ?_
              refine ro_S S hkx (mL_low l (v := w) (k := 200) (h0 := (by omega)) (hk := (by omega))) gL_change_L_low rfl idL_low.2 ⟨Nat.le_of_ble_eq_true rfl, Nat.le_of_ble_eq_true rfl⟩ rfl hl.1 rfl (Nat.le_of_ble_eq_true rfl) dL_change_81 ⟨Nat.le_of_ble_eq_true rfl, Nat.le_of_ble_eq_true rfl⟩ (fun r9 hr9 => ?_)
              subst hr9
              refine W.eq (g2 := F0 m 84 ls [.int (nI (lowN w 200))]) rfl ?_
              refine lv_istore (lv' := [(9, .int (nI (lowN w 200))), (8, .int (nI (chF N v))), (0, .ref (q 0)), (1, .int v), (2, .int w), (3, .int (nI (N 0))), (4, .int (nI (N 1))), (5, .int (nI (N 2))), (6, .int (nI (chU N v))), (7, .int (nI (chA N v)))]) hx hb dL_change_84 hl (by decide) rfl (fun ls hl => ?_)
              refine lv_iload_n hx hb dL_change_86 rfl (lv_at hl 3 rfl) ?_
              refine lv_bipush (v := 12) hx hb dL_change_87 (by decide) ?_
              refine ro_S S hkx (mL_low l (v := v) (k := 12) (h0 := (by omega)) (hk := (by omega))) gL_change_L_low rfl idL_low.2 ⟨Nat.le_of_ble_eq_true rfl, Nat.le_of_ble_eq_true rfl⟩ rfl hl.1 rfl (Nat.le_of_ble_eq_true rfl) dL_change_89 ⟨Nat.le_of_ble_eq_true rfl, Nat.le_of_ble_eq_true rfl⟩ (fun r9 hr9 => ?_)
              subst hr9
              refine W.eq (g2 := F0 m 92 ls [.int (nI (lowN v 12))]) rfl ?_
              obtain ⟨cz, hcz⟩ : ∃ cz, lowN v 12 = cz := ⟨_, rfl⟩
              have hcz12 : cz < 12 := hcz ▸ lowN_lt v (by decide)
              refine W.eq (g2 := F0 m 92 ls [.int (nI cz)]) (congrArg (fun z9 => F0 m 92 ls (.int z9 :: [])) (congrArg nI hcz)) ?_
              rcases (show cz = 0 ∨ cz = 1 ∨ cz = 2 ∨ cz = 3 ∨ cz = 4 ∨ cz = 5 ∨ cz = 6 ∨ cz = 7 ∨ cz = 8 ∨ cz = 9 ∨ cz = 10 ∨ cz = 11 by omega) with rfl | rfl | rfl | rfl | rfl | rfl | rfl | rfl | rfl | rfl | rfl | rfl
              · refine lv_tableIn (off := 60) (tgt := 152) hx hb dL_change_92 (by decide) (by decide) rfl (by decide) ?_
                have hg : chg N Z v w = ch0 N Z w := by unfold chg; rw [hcz]; rfl
                refine lv_iload_n hx hb dL_change_152 rfl (lv_at hl 5 rfl) ?_
                refine lv_iconst (v := 5) hx hb dL_change_153 (by decide) ?_
                refine lv_icmp_ge (tgt := 184) hx hb dL_change_154 (by decide) (fun c_83 => ?_) (fun c_83 => ?_)
                · replace c_83 := cn_le (a := 5) (b := (N 0)) (by omega) (by omega) c_83
                  refine lv_aload_n hx hb dL_change_184 rfl (lv_at hl 2 rfl) ?_
                  refine lv_iconst (v := 4) hx hb dL_change_185 (by decide) ?_
                  refine rn_V S hkx hth (nX5_value l hl0 (sa := sa) (h9 := (fun q h => hA q (Nat.le_trans hS.1 h))) (hP := hP) (hwf := hwf) (hw := (by omega)) (w := 4)) gL_change_X5_value rfl idX5_value ⟨Nat.le_of_ble_eq_true rfl, Nat.le_of_ble_eq_true rfl⟩ hP 0 rfl rfl rfl rfl hl.1 rfl (Nat.le_of_ble_eq_true rfl) dL_change_186 ⟨Nat.le_of_ble_eq_true rfl, Nat.le_of_ble_eq_true rfl⟩ (fun v9 hv9 => ?_)
                  subst hv9
                  refine W.eq (g2 := F0 m 189 ls [.int (plC Z (N 2))]) rfl ?_
                  have hv9 : chg N Z v w = ((plC Z (N 2)), N, Z) := by rw [hg]; unfold ch0; rw [if_neg (by first | assumption | omega | exact (fun q9 => by first | omega | exact absurd q9.2 (by assumption) | exact absurd q9.2.1 (by assumption) | exact absurd q9.2.2 (by assumption)))]
                  exact hret _ H _ _ _ _ _ (show some (Value.int (plC Z (N 2))) = some (Value.int ((chg N Z v w).1)) ∧ wst G T q a (chg N Z v w).2.1 (chg N Z v w).2.2 b tx L cu er le nb nc H from ⟨by rw [hv9], by rw [hv9]; exact wst_id hsc hP⟩) rfl hS (Nat.le_of_ble_eq_true rfl) (Nat.le_of_ble_eq_true rfl) dL_change_189
                · replace c_83 := cn_nle (a := 5) (b := (N 0)) (by omega) (by omega) c_83
                  refine lv_aload_n hx hb dL_change_157 rfl (lv_at hl 2 rfl) ?_
                  refine lv_iload hx hb dL_change_158 (lv_at hl 0 rfl) ?_
                  refine lv_iload hx hb dL_change_160 (lv_at hl 0 rfl) ?_
                  refine lv_iconst (v := 1) hx hb dL_change_162 (by decide) ?_
                  refine lv_iadd hx hb dL_change_163 ?_
                  refine W.eq (g2 := F0 m 164 ls [.int (nI ((lowN w 200) + 1)), .int (nI (lowN w 200)), .ref (q 0)]) (congrArg (fun z9 => F0 m 164 ls (.int z9 :: [.int (nI (lowN w 200)), .ref (q 0)])) (nI_add _ 1)) ?_
                  refine lv_iload_n hx hb dL_change_164 rfl (lv_at hl 4 rfl) ?_
                  refine lv_bipush (v := 8) hx hb dL_change_165 (by decide) ?_
                  refine lv_ishr hx hb dL_change_167 ?_
                  refine lv_sipush (v := 1000) hx hb dL_change_168 (by decide) ?_
                  refine lv_iload hx hb dL_change_171 (lv_at hl 0 rfl) ?_
                  refine lv_isub hx hb dL_change_173 ?_
                  refine W.eq (g2 := F0 m 174 ls [.int (nI (1000 - (lowN w 200))), .int (w >>> (8 &&& 31)), .int (nI ((lowN w 200) + 1)), .int (nI (lowN w 200)), .ref (q 0)]) (congrArg (fun z9 => F0 m 174 ls (.int z9 :: [.int (w >>> (8 &&& 31)), .int (nI ((lowN w 200) + 1)), .int (nI (lowN w 200)), .ref (q 0)])) (pk_sub (a := 1000) (b := (lowN w 200)) (by omega))) ?_
                  refine ro_S S hkx (mL_low l (v := (w >>> (8 &&& 31))) (k := (1000 - (lowN w 200))) (h0 := (by omega)) (hk := (by omega))) gL_change_L_low rfl idL_low.2 ⟨Nat.le_of_ble_eq_true rfl, Nat.le_of_ble_eq_true rfl⟩ rfl hl.1 rfl (Nat.le_of_ble_eq_true rfl) dL_change_174 ⟨Nat.le_of_ble_eq_true rfl, Nat.le_of_ble_eq_true rfl⟩ (fun r9 hr9 => ?_)
                  subst hr9
                  refine W.eq (g2 := F0 m 177 ls [.int (nI (lowN (w >>> (8 &&& 31)) (1000 - (lowN w 200)))), .int (nI ((lowN w 200) + 1)), .int (nI (lowN w 200)), .ref (q 0)]) rfl ?_
                  refine lv_iadd hx hb dL_change_177 ?_
                  refine W.eq (g2 := F0 m 178 ls [.int (nI (((lowN w 200) + 1) + (lowN (w >>> (8 &&& 31)) (1000 - (lowN w 200))))), .int (nI (lowN w 200)), .ref (q 0)]) (congrArg (fun z9 => F0 m 178 ls (.int z9 :: [.int (nI (lowN w 200)), .ref (q 0)])) (nI_add _ _)) ?_
                  refine wn_V S hkx hth (nX5_addVersion l hl0 (sa := sa) (A9 := A) (h9 := (fun q h => hA q (Nat.le_trans hS.1 h))) (hP := hP) (hD := hD.weaken (fun _ _ _ _ => trivial)) (hwf := hwf) (hsc := (by omega)) (hx := (by omega)) (hz1 := (by omega)) (hz := (by omega)) (h8 := (by omega)) (x := (lowN w 200)) (z := (((lowN w 200) + 1) + (lowN (w >>> (8 &&& 31)) (1000 - (lowN w 200)))))) gL_change_X5_addVersion rfl idX5_addVersion ⟨Nat.le_of_ble_eq_true rfl, Nat.le_of_ble_eq_true rfl⟩ hP 0 rfl rfl rfl rfl hl.1 rfl (Nat.le_of_ble_eq_true rfl) dL_change_178 ⟨Nat.le_of_ble_eq_true rfl, Nat.le_of_ble_eq_true rfl⟩ hS (fr_in hD (fun q h => hA q (Nat.le_trans hS.1 h))) (fun v9 H locs hp9 hz1 hk1 hS => ?_)
                  obtain ⟨rfl, hP⟩ := hp9
                  have hP : va_P G vwCl (wMain T q a (va_up N 0 (N 0 + 1)) (vAdd N Z (nI (lowN w 200)) (nI (((lowN w 200) + 1) + (lowN (w >>> (8 &&& 31)) (1000 - (lowN w 200)))))) (svB sc b) (psh sc M N) (psh sc Y Z) (svC sc) tx L cu er le nb nc) H := hP
                  have hD : va_D A (wMain T q a (va_up N 0 (N 0 + 1)) (vAdd N Z (nI (lowN w 200)) (nI (((lowN w 200) + 1) + (lowN (w >>> (8 &&& 31)) (1000 - (lowN w 200)))))) (svB sc b) (psh sc M N) (psh sc Y Z) (svC sc) tx L cu er le nb nc) := D_perm hD sv_addr
                  have hth := hth0.kept hS.2.1
                  refine W.eq (g2 := F0 m 181 ls [.int (nI (N 0))]) rfl ?_
                  refine lv_goto (tgt := 189) hx hb dL_change_181 (by decide) ?_
                  have hv9 : chg N Z v w = ((nI (N 0)), (va_up N 0 (N 0 + 1)), (vAdd N Z (nI (lowN w 200)) (nI (((lowN w 200) + 1) + (lowN (w >>> (8 &&& 31)) (1000 - (lowN w 200))))))) := by rw [hg]; unfold ch0; rw [if_pos (by first | assumption | omega | exact ⟨by first | assumption | omega, by first | assumption | omega⟩ | exact ⟨by first | assumption | omega, by first | assumption | omega, by first | assumption | omega⟩)]
                  exact hret _ H _ _ _ _ _ (show some (Value.int (nI (N 0))) = some (Value.int ((chg N Z v w).1)) ∧ wst G T q a (chg N Z v w).2.1 (chg N Z v w).2.2 b tx L cu er le nb nc H from ⟨by rw [hv9], by rw [hv9]; exact wst_sv hsc hP⟩) rfl hS (Nat.le_of_ble_eq_true rfl) (Nat.le_of_ble_eq_true rfl) dL_change_189
              · refine lv_tableIn (off := 98) (tgt := 190) hx hb dL_change_92 (by decide) (by decide) rfl (by decide) ?_
                have hg : chg N Z v w = ch1 N Z w := by unfold chg; rw [hcz]; rfl
                refine lv_iload_n hx hb dL_change_190 rfl (lv_at hl 5 rfl) ?_
                refine lv_if_le (tgt := 215) hx hb dL_change_191 (by decide) (fun c_84 => ?_) (fun c_84 => ?_)
                · replace c_84 := cn_le (a := (N 0)) (b := 0) (by omega) (by omega) c_84
                  refine lv_iload_n hx hb dL_change_215 rfl (lv_at hl 5 rfl) ?_
                  refine lv_if_ne (tgt := 230) hx hb dL_change_216 (by decide) (fun c_85 => ?_) (fun c_85 => ?_)
                  · exact absurd (show nI (N 0) = 0 by rw [show N 0 = 0 by omega]; rfl) c_85
                  · replace c_85 := cn_eq (a := (N 0)) (b := 0) (by omega) (by omega) c_85
                    refine lv_aload_n hx hb dL_change_219 rfl (lv_at hl 2 rfl) ?_
                    refine lv_iconst (v := 0) hx hb dL_change_220 (by decide) ?_
                    refine lv_sipush (v := 700) hx hb dL_change_221 (by decide) ?_
                    refine wn_V S hkx hth (nX5_addVersion l hl0 (sa := sa) (A9 := A) (h9 := (fun q h => hA q (Nat.le_trans hS.1 h))) (hP := hP) (hD := hD.weaken (fun _ _ _ _ => trivial)) (hwf := hwf) (hsc := (by omega)) (hx := (by omega)) (hz1 := (by omega)) (hz := (by omega)) (h8 := (by omega)) (x := 0) (z := 700)) gL_change_X5_addVersion rfl idX5_addVersion ⟨Nat.le_of_ble_eq_true rfl, Nat.le_of_ble_eq_true rfl⟩ hP 0 rfl rfl rfl rfl hl.1 rfl (Nat.le_of_ble_eq_true rfl) dL_change_224 ⟨Nat.le_of_ble_eq_true rfl, Nat.le_of_ble_eq_true rfl⟩ hS (fr_in hD (fun q h => hA q (Nat.le_trans hS.1 h))) (fun v9 H locs hp9 hz1 hk1 hS => ?_)
                    obtain ⟨rfl, hP⟩ := hp9
                    have hP : va_P G vwCl (wMain T q a (va_up N 0 (N 0 + 1)) (vAdd N Z (nI 0) (nI 700)) (svB sc b) (psh sc M N) (psh sc Y Z) (svC sc) tx L cu er le nb nc) H := hP
                    have hD : va_D A (wMain T q a (va_up N 0 (N 0 + 1)) (vAdd N Z (nI 0) (nI 700)) (svB sc b) (psh sc M N) (psh sc Y Z) (svC sc) tx L cu er le nb nc) := D_perm hD sv_addr
                    have hth := hth0.kept hS.2.1
                    refine W.eq (g2 := F0 m 227 ls [.int (nI (N 0))]) rfl ?_
                    refine lv_goto (tgt := 231) hx hb dL_change_227 (by decide) ?_
                    have hv9 : chg N Z v w = ((nI (N 0)), (va_up N 0 (N 0 + 1)), (vAdd N Z (nI 0) (nI 700))) := by rw [hg]; unfold ch1; rw [if_neg (by first | assumption | omega | exact (fun q9 => by first | omega | exact absurd q9.2 (by assumption) | exact absurd q9.2.1 (by assumption) | exact absurd q9.2.2 (by assumption)))]; rw [if_pos (by first | assumption | omega | exact ⟨by first | assumption | omega, by first | assumption | omega⟩ | exact ⟨by first | assumption | omega, by first | assumption | omega, by first | assumption | omega⟩)]
                    exact hret _ H _ _ _ _ _ (show some (Value.int (nI (N 0))) = some (Value.int ((chg N Z v w).1)) ∧ wst G T q a (chg N Z v w).2.1 (chg N Z v w).2.2 b tx L cu er le nb nc H from ⟨by rw [hv9], by rw [hv9]; exact wst_sv hsc hP⟩) rfl hS (Nat.le_of_ble_eq_true rfl) (Nat.le_of_ble_eq_true rfl) dL_change_231
                · replace c_84 := cn_nle (a := (N 0)) (b := 0) (by omega) (by omega) c_84
                  refine lv_iload hx hb dL_change_194 (lv_at hl 6 rfl) ?_
                  refine lv_bipush (v := 6) hx hb dL_change_196 (by decide) ?_
                  refine lv_icmp_ge (tgt := 215) hx hb dL_change_198 (by decide) (fun c_86 => ?_) (fun c_86 => ?_)
                  · replace c_86 := cn_le (a := 6) (b := (N 1)) (by omega) (by omega) c_86
                    refine lv_iload_n hx hb dL_change_215 rfl (lv_at hl 5 rfl) ?_
                    refine lv_if_ne (tgt := 230) hx hb dL_change_216 (by decide) (fun c_87 => ?_) (fun c_87 => ?_)
                    · replace c_87 := cn_ne (a := (N 0)) (b := 0) (by omega) (by omega) c_87
                      refine lv_iconst (v := 0) hx hb dL_change_230 (by decide) ?_
                      have hv9 : chg N Z v w = (0, N, Z) := by rw [hg]; unfold ch1; rw [if_neg (by first | assumption | omega | exact (fun q9 => by first | omega | exact absurd q9.2 (by assumption) | exact absurd q9.2.1 (by assumption) | exact absurd q9.2.2 (by assumption)))]; rw [if_neg (by first | assumption | omega | exact (fun q9 => by first | omega | exact absurd q9.2 (by assumption) | exact absurd q9.2.1 (by assumption) | exact absurd q9.2.2 (by assumption)))]
                      exact hret _ H _ _ _ _ _ (show some (Value.int 0) = some (Value.int ((chg N Z v w).1)) ∧ wst G T q a (chg N Z v w).2.1 (chg N Z v w).2.2 b tx L cu er le nb nc H from ⟨by rw [hv9], by rw [hv9]; exact wst_id hsc hP⟩) rfl hS (Nat.le_of_ble_eq_true rfl) (Nat.le_of_ble_eq_true rfl) dL_change_231
                    · exfalso; replace c_87 := cn_eq (a := N 0) (b := 0) (by omega) (by omega) c_87; omega
                  · replace c_86 := cn_nle (a := 6) (b := (N 1)) (by omega) (by omega) c_86
                    refine lv_aload_n hx hb dL_change_201 rfl (lv_at hl 2 rfl) ?_
                    refine lv_iload_n hx hb dL_change_202 rfl (lv_at hl 4 rfl) ?_
                    refine lv_iconst (v := 1) hx hb dL_change_203 (by decide) ?_
                    refine lv_iload_n hx hb dL_change_204 rfl (lv_at hl 5 rfl) ?_
                    refine lv_ishl hx hb dL_change_205 ?_
                    refine W.eq (g2 := F0 m 206 ls [.int (nI (2 ^ N 0)), .int w, .ref (q 0)]) (congrArg (fun z9 => F0 m 206 ls (.int z9 :: [.int w, .ref (q 0)])) (sh_1 (N 0) (by omega))) ?_
                    refine ro_S S hkx (mL_low l (v := w) (k := (2 ^ N 0)) (h0 := (Nat.pow_pos (by decide))) (hk := (Nat.pow_lt_pow_right (by decide) (by omega)))) gL_change_L_low rfl idL_low.2 ⟨Nat.le_of_ble_eq_true rfl, Nat.le_of_ble_eq_true rfl⟩ rfl hl.1 rfl (Nat.le_of_ble_eq_true rfl) dL_change_206 ⟨Nat.le_of_ble_eq_true rfl, Nat.le_of_ble_eq_true rfl⟩ (fun r9 hr9 => ?_)
                    subst hr9
                    refine W.eq (g2 := F0 m 209 ls [.int (nI (lowN w (2 ^ N 0))), .ref (q 0)]) rfl ?_
                    refine wn_V S hkx hth (nX5_addFeature l hl0 (sa := sa) (A9 := A) (h9 := (fun q h => hA q (Nat.le_trans hS.1 h))) (hP := hP) (hD := hD.weaken (fun _ _ _ _ => trivial)) (hwf := hwf) (hsc := (by omega)) (hx := (lowN_lt _ (Nat.pow_pos (by decide)))) (h8 := (by omega)) (x := (lowN w (2 ^ N 0)))) gL_change_X5_addFeature rfl idX5_addFeature ⟨Nat.le_of_ble_eq_true rfl, Nat.le_of_ble_eq_true rfl⟩ hP 0 rfl rfl rfl rfl hl.1 rfl (Nat.le_of_ble_eq_true rfl) dL_change_209 ⟨Nat.le_of_ble_eq_true rfl, Nat.le_of_ble_eq_true rfl⟩ hS (fr_in hD (fun q h => hA q (Nat.le_trans hS.1 h))) (fun v9 H locs hp9 hz1 hk1 hS => ?_)
                    obtain ⟨rfl, hP⟩ := hp9
                    have hP : va_P G vwCl (wMain T q a (va_up N 1 (N 1 + 1)) (va_up Z 4 (apF (Z 4) (nI (lowN w (2 ^ N 0))) (N 1) (N 0))) (svB sc b) (psh sc M N) (psh sc Y Z) (svC sc) tx L cu er le nb nc) H := hP
                    have hD : va_D A (wMain T q a (va_up N 1 (N 1 + 1)) (va_up Z 4 (apF (Z 4) (nI (lowN w (2 ^ N 0))) (N 1) (N 0))) (svB sc b) (psh sc M N) (psh sc Y Z) (svC sc) tx L cu er le nb nc) := D_perm hD sv_addr
                    have hth := hth0.kept hS.2.1
                    refine W.eq (g2 := F0 m 212 ls [.int (nI (N 1))]) rfl ?_
                    refine lv_goto (tgt := 231) hx hb dL_change_212 (by decide) ?_
                    have hv9 : chg N Z v w = ((nI (N 1)), (va_up N 1 (N 1 + 1)), (va_up Z 4 (apF (Z 4) (nI (lowN w (2 ^ N 0))) (N 1) (N 0)))) := by rw [hg]; unfold ch1; rw [if_pos (by first | assumption | omega | exact ⟨by first | assumption | omega, by first | assumption | omega⟩ | exact ⟨by first | assumption | omega, by first | assumption | omega, by first | assumption | omega⟩)]
                    exact hret _ H _ _ _ _ _ (show some (Value.int (nI (N 1))) = some (Value.int ((chg N Z v w).1)) ∧ wst G T q a (chg N Z v w).2.1 (chg N Z v w).2.2 b tx L cu er le nb nc H from ⟨by rw [hv9], by rw [hv9]; exact wst_sv hsc hP⟩) rfl hS (Nat.le_of_ble_eq_true rfl) (Nat.le_of_ble_eq_true rfl) dL_change_231
              · refine lv_tableIn (off := 140) (tgt := 232) hx hb dL_change_92 (by decide) (by decide) rfl (by decide) ?_
                have hg : chg N Z v w = ch2 N Z v := by unfold chg; rw [hcz]; rfl
                refine lv_iload_n hx hb dL_change_232 rfl (lv_at hl 5 rfl) ?_
                refine lv_if_le (tgt := 272) hx hb dL_change_233 (by decide) (fun c_88 => ?_) (fun c_88 => ?_)
                · replace c_88 := cn_le (a := (N 0)) (b := 0) (by omega) (by omega) c_88
                  refine lv_iconst (v := 0) hx hb dL_change_272 (by decide) ?_
                  have hv9 : chg N Z v w = (0, N, Z) := by rw [hg]; unfold ch2; rw [if_neg (by first | assumption | omega | exact (fun q9 => by first | omega | exact absurd q9.2 (by assumption) | exact absurd q9.2.1 (by assumption) | exact absurd q9.2.2 (by assumption)))]
                  exact hret _ H _ _ _ _ _ (show some (Value.int 0) = some (Value.int ((chg N Z v w).1)) ∧ wst G T q a (chg N Z v w).2.1 (chg N Z v w).2.2 b tx L cu er le nb nc H from ⟨by rw [hv9], by rw [hv9]; exact wst_id hsc hP⟩) rfl hS (Nat.le_of_ble_eq_true rfl) (Nat.le_of_ble_eq_true rfl) dL_change_273
                · replace c_88 := cn_nle (a := (N 0)) (b := 0) (by omega) (by omega) c_88
                  refine lv_iload hx hb dL_change_236 (lv_at hl 6 rfl) ?_
                  refine lv_if_le (tgt := 272) hx hb dL_change_238 (by decide) (fun c_89 => ?_) (fun c_89 => ?_)
                  · replace c_89 := cn_le (a := (N 1)) (b := 0) (by omega) (by omega) c_89
                    refine lv_iconst (v := 0) hx hb dL_change_272 (by decide) ?_
                    have hv9 : chg N Z v w = (0, N, Z) := by rw [hg]; unfold ch2; rw [if_neg (by first | assumption | omega | exact (fun q9 => by first | omega | exact absurd q9.2 (by assumption) | exact absurd q9.2.1 (by assumption) | exact absurd q9.2.2 (by assumption)))]
                    exact hret _ H _ _ _ _ _ (show some (Value.int 0) = some (Value.int ((chg N Z v w).1)) ∧ wst G T q a (chg N Z v w).2.1 (chg N Z v w).2.2 b tx L cu er le nb nc H from ⟨by rw [hv9], by rw [hv9]; exact wst_id hsc hP⟩) rfl hS (Nat.le_of_ble_eq_true rfl) (Nat.le_of_ble_eq_true rfl) dL_change_273
                  · replace c_89 := cn_nle (a := (N 1)) (b := 0) (by omega) (by omega) c_89
                    refine lv_aload_n hx hb dL_change_241 rfl (lv_at hl 2 rfl) ?_
                    refine lv_iload hx hb dL_change_242 (lv_at hl 1 rfl) ?_
                    refine lv_iload hx hb dL_change_244 (lv_at hl 9 rfl) ?_
                    refine lv_aload_n hx hb dL_change_246 rfl (lv_at hl 2 rfl) ?_
                    refine lv_iload hx hb dL_change_247 (lv_at hl 9 rfl) ?_
                    refine lv_iconst (v := 2) hx hb dL_change_249 (by decide) ?_
                    refine rn_V S hkx hth (nX5_version l hl0 (sa := sa) (h9 := (fun q h => hA q (Nat.le_trans hS.1 h))) (hP := hP) (hwf := hwf) (hv := (chA_lt (by omega))) (hw := (by omega)) (v := (chA N v)) (w := 2)) gL_change_X5_version rfl idX5_version ⟨Nat.le_of_ble_eq_true rfl, Nat.le_of_ble_eq_true rfl⟩ hP 0 rfl rfl rfl rfl hl.1 rfl (Nat.le_of_ble_eq_true rfl) dL_change_250 ⟨Nat.le_of_ble_eq_true rfl, Nat.le_of_ble_eq_true rfl⟩ (fun v9 hv9 => ?_)
                    subst hv9
                    refine W.eq (g2 := F0 m 253 ls [.int (Z 4 (chA N v)), .int (nI (chA N v)), .int (nI (chF N v)), .ref (q 0)]) rfl ?_
                    refine lv_iload hx hb dL_change_253 (lv_at hl 1 rfl) ?_
                    refine lv_ishr hx hb dL_change_255 ?_
                    refine lv_iconst (v := 1) hx hb dL_change_256 (by decide) ?_
                    refine lv_iand hx hb dL_change_257 ?_
                    refine W.eq (g2 := F0 m 258 ls [.int (bI (cnt1 (Z 4 (chA N v)) (nI (chF N v)))), .int (nI (chA N v)), .int (nI (chF N v)), .ref (q 0)]) (congrArg (fun z9 => F0 m 258 ls (.int z9 :: [.int (nI (chA N v)), .int (nI (chF N v)), .ref (q 0)])) (and_cn (Nat.lt_of_lt_of_le (chF_lt (by omega)) (by omega)))) ?_
                    refine lv_if_ne (tgt := 265) hx hb dL_change_258 (by decide) (fun c_90 => ?_) (fun c_90 => ?_)
                    · replace c_90 := bI_n0 c_90
                      refine lv_iconst (v := 0) hx hb dL_change_265 (by decide) ?_
                      refine W.eq (g2 := F0 m 266 ls [.int (bI false), .int (nI (chA N v)), .int (nI (chF N v)), .ref (q 0)]) (congrArg (fun z9 => F0 m 266 ls (.int z9 :: [.int (nI (chA N v)), .int (nI (chF N v)), .ref (q 0)])) (rfl)) ?_
                      refine wn_V S hkx hth (nX5_put l hl0 (sa := sa) (A9 := A) (h9 := (fun q h => hA q (Nat.le_trans hS.1 h))) (hP := hP) (hD := hD.weaken (fun _ _ _ _ => trivial)) (hwf := hwf) (hsc := (by omega)) (hf := (chF_lt (by omega))) (hv := (chA_lt (by omega))) (h8 := (by first | (rw [show cnt1 (Z 4 (chA N v)) (nI (chF N v)) = true by assumption]; decide) | (rw [show cnt1 (Z 4 (chA N v)) (nI (chF N v)) = false by assumption]; decide))) (f := (chF N v)) (v := (chA N v)) (h := false)) gL_change_X5_put rfl idX5_put ⟨Nat.le_of_ble_eq_true rfl, Nat.le_of_ble_eq_true rfl⟩ hP 0 rfl rfl rfl rfl hl.1 rfl (Nat.le_of_ble_eq_true rfl) dL_change_266 ⟨Nat.le_of_ble_eq_true rfl, Nat.le_of_ble_eq_true rfl⟩ hS (fr_in hD (fun q h => hA q (Nat.le_trans hS.1 h))) (fun v9 H locs hp9 hz1 hk1 hS => ?_)
                      obtain ⟨rfl, hP⟩ := hp9
                      have hP : va_P G vwCl (wMain T q a N (va_up Z 4 (upd (Z 4) (chA N v) (Z 4 (chA N v) ^^^ ((1 : Int32) <<< (nI (chF N v) &&& 31))))) (svB sc b) (psh sc M N) (psh sc Y Z) (svC sc) tx L cu er le nb nc) H := hP
                      have hD : va_D A (wMain T q a N (va_up Z 4 (upd (Z 4) (chA N v) (Z 4 (chA N v) ^^^ ((1 : Int32) <<< (nI (chF N v) &&& 31))))) (svB sc b) (psh sc M N) (psh sc Y Z) (svC sc) tx L cu er le nb nc) := D_perm hD sv_addr
                      have hth := hth0.kept hS.2.1
                      refine W.eq (g2 := F0 m 269 ls [.int (allW (va_up Z 4 (upd (Z 4) (chA N v) (Z 4 (chA N v) ^^^ ((1 : Int32) <<< (nI (chF N v) &&& 31))))) (nI (chF N v)) (N 0))]) rfl ?_
                      refine lv_goto (tgt := 273) hx hb dL_change_269 (by decide) ?_
                      have hv9 : chg N Z v w = ((allW (va_up Z 4 (upd (Z 4) (chA N v) (Z 4 (chA N v) ^^^ ((1 : Int32) <<< (nI (chF N v) &&& 31))))) (nI (chF N v)) (N 0)), N, (va_up Z 4 (upd (Z 4) (chA N v) (Z 4 (chA N v) ^^^ ((1 : Int32) <<< (nI (chF N v) &&& 31)))))) := by rw [hg]; unfold ch2; rw [if_pos (by first | assumption | omega | exact ⟨by first | assumption | omega, by first | assumption | omega⟩ | exact ⟨by first | assumption | omega, by first | assumption | omega, by first | assumption | omega⟩)]
                      exact hret _ H _ _ _ _ _ (show some (Value.int (allW (va_up Z 4 (upd (Z 4) (chA N v) (Z 4 (chA N v) ^^^ ((1 : Int32) <<< (nI (chF N v) &&& 31))))) (nI (chF N v)) (N 0))) = some (Value.int ((chg N Z v w).1)) ∧ wst G T q a (chg N Z v w).2.1 (chg N Z v w).2.2 b tx L cu er le nb nc H from ⟨by rw [hv9], by rw [hv9]; exact wst_sv hsc hP⟩) rfl hS (Nat.le_of_ble_eq_true rfl) (Nat.le_of_ble_eq_true rfl) dL_change_273
                    · replace c_90 := bI_e0 c_90
                      refine lv_iconst (v := 1) hx hb dL_change_261 (by decide) ?_
                      refine lv_goto (tgt := 266) hx hb dL_change_262 (by decide) ?_
                      refine W.eq (g2 := F0 m 266 ls [.int (bI true), .int (nI (chA N v)), .int (nI (chF N v)), .ref (q 0)]) (congrArg (fun z9 => F0 m 266 ls (.int z9 :: [.int (nI (chA N v)), .int (nI (chF N v)), .ref (q 0)])) (rfl)) ?_
                      refine wn_V S hkx hth (nX5_put l hl0 (sa := sa) (A9 := A) (h9 := (fun q h => hA q (Nat.le_trans hS.1 h))) (hP := hP) (hD := hD.weaken (fun _ _ _ _ => trivial)) (hwf := hwf) (hsc := (by omega)) (hf := (chF_lt (by omega))) (hv := (chA_lt (by omega))) (h8 := (by first | (rw [show cnt1 (Z 4 (chA N v)) (nI (chF N v)) = true by assumption]; decide) | (rw [show cnt1 (Z 4 (chA N v)) (nI (chF N v)) = false by assumption]; decide))) (f := (chF N v)) (v := (chA N v)) (h := true)) gL_change_X5_put rfl idX5_put ⟨Nat.le_of_ble_eq_true rfl, Nat.le_of_ble_eq_true rfl⟩ hP 0 rfl rfl rfl rfl hl.1 rfl (Nat.le_of_ble_eq_true rfl) dL_change_266 ⟨Nat.le_of_ble_eq_true rfl, Nat.le_of_ble_eq_true rfl⟩ hS (fr_in hD (fun q h => hA q (Nat.le_trans hS.1 h))) (fun v9 H locs hp9 hz1 hk1 hS => ?_)
                      obtain ⟨rfl, hP⟩ := hp9
                      have hP : va_P G vwCl (wMain T q a N (va_up Z 4 (upd (Z 4) (chA N v) (Z 4 (chA N v) ^^^ ((1 : Int32) <<< (nI (chF N v) &&& 31))))) (svB sc b) (psh sc M N) (psh sc Y Z) (svC sc) tx L cu er le nb nc) H := hP
                      have hD : va_D A (wMain T q a N (va_up Z 4 (upd (Z 4) (chA N v) (Z 4 (chA N v) ^^^ ((1 : Int32) <<< (nI (chF N v) &&& 31))))) (svB sc b) (psh sc M N) (psh sc Y Z) (svC sc) tx L cu er le nb nc) := D_perm hD sv_addr
                      have hth := hth0.kept hS.2.1
                      refine W.eq (g2 := F0 m 269 ls [.int (allW (va_up Z 4 (upd (Z 4) (chA N v) (Z 4 (chA N v) ^^^ ((1 : Int32) <<< (nI (chF N v) &&& 31))))) (nI (chF N v)) (N 0))]) rfl ?_
                      refine lv_goto (tgt := 273) hx hb dL_change_269 (by decide) ?_
                      have hv9 : chg N Z v w = ((allW (va_up Z 4 (upd (Z 4) (chA N v) (Z 4 (chA N v) ^^^ ((1 : Int32) <<< (nI (chF N v) &&& 31))))) (nI (chF N v)) (N 0)), N, (va_up Z 4 (upd (Z 4) (chA N v) (Z 4 (chA N v) ^^^ ((1 : Int32) <<< (nI (chF N v) &&& 31)))))) := by rw [hg]; unfold ch2; rw [if_pos (by first | assumption | omega | exact ⟨by first | assumption | omega, by first | assumption | omega⟩ | exact ⟨by first | assumption | omega, by first | assumption | omega, by first | assumption | omega⟩)]
                      exact hret _ H _ _ _ _ _ (show some (Value.int (allW (va_up Z 4 (upd (Z 4) (chA N v) (Z 4 (chA N v) ^^^ ((1 : Int32) <<< (nI (chF N v) &&& 31))))) (nI (chF N v)) (N 0))) = some (Value.int ((chg N Z v w).1)) ∧ wst G T q a (chg N Z v w).2.1 (chg N Z v w).2.2 b tx L cu er le nb nc H from ⟨by rw [hv9], by rw [hv9]; exact wst_sv hsc hP⟩) rfl hS (Nat.le_of_ble_eq_true rfl) (Nat.le_of_ble_eq_true rfl) dL_change_273
              · refine lv_tableIn (off := 182) (tgt := 274) hx hb dL_change_92 (by decide) (by decide) rfl (by decide) ?_
                have hg : chg N Z v w = ch3 N Z v w := by unfold chg; rw [hcz]; rfl
                refine lv_iload_n hx hb dL_change_274 rfl (lv_at hl 5 rfl) ?_
                refine lv_if_le (tgt := 303) hx hb dL_change_275 (by decide) (fun c_91 => ?_) (fun c_91 => ?_)
                · replace c_91 := cn_le (a := (N 0)) (b := 0) (by omega) (by omega) c_91
                  refine lv_iconst (v := 0) hx hb dL_change_303 (by decide) ?_
                  have hv9 : chg N Z v w = (0, N, Z) := by rw [hg]; unfold ch3; rw [if_neg (by first | assumption | omega | exact (fun q9 => by first | omega | exact absurd q9.2 (by assumption) | exact absurd q9.2.1 (by assumption) | exact absurd q9.2.2 (by assumption)))]
                  exact hret _ H _ _ _ _ _ (show some (Value.int 0) = some (Value.int ((chg N Z v w).1)) ∧ wst G T q a (chg N Z v w).2.1 (chg N Z v w).2.2 b tx L cu er le nb nc H from ⟨by rw [hv9], by rw [hv9]; exact wst_id hsc hP⟩) rfl hS (Nat.le_of_ble_eq_true rfl) (Nat.le_of_ble_eq_true rfl) dL_change_304
                · replace c_91 := cn_nle (a := (N 0)) (b := 0) (by omega) (by omega) c_91
                  refine lv_iload hx hb dL_change_278 (lv_at hl 7 rfl) ?_
                  refine lv_iconst (v := 5) hx hb dL_change_280 (by decide) ?_
                  refine lv_icmp_ge (tgt := 303) hx hb dL_change_281 (by decide) (fun c_92 => ?_) (fun c_92 => ?_)
                  · replace c_92 := cn_le (a := 5) (b := (N 2)) (by omega) (by omega) c_92
                    refine lv_iconst (v := 0) hx hb dL_change_303 (by decide) ?_
                    have hv9 : chg N Z v w = (0, N, Z) := by rw [hg]; unfold ch3; rw [if_neg (by first | assumption | omega | exact (fun q9 => by first | omega | exact absurd q9.2 (by assumption) | exact absurd q9.2.1 (by assumption) | exact absurd q9.2.2 (by assumption)))]
                    exact hret _ H _ _ _ _ _ (show some (Value.int 0) = some (Value.int ((chg N Z v w).1)) ∧ wst G T q a (chg N Z v w).2.1 (chg N Z v w).2.2 b tx L cu er le nb nc H from ⟨by rw [hv9], by rw [hv9]; exact wst_id hsc hP⟩) rfl hS (Nat.le_of_ble_eq_true rfl) (Nat.le_of_ble_eq_true rfl) dL_change_304
                  · replace c_92 := cn_nle (a := 5) (b := (N 2)) (by omega) (by omega) c_92
                    refine lv_aload_n hx hb dL_change_284 rfl (lv_at hl 2 rfl) ?_
                    refine lv_iload hx hb dL_change_285 (lv_at hl 9 rfl) ?_
                    refine lv_iload_n hx hb dL_change_287 rfl (lv_at hl 4 rfl) ?_
                    refine lv_iconst (v := 3) hx hb dL_change_288 (by decide) ?_
                    refine lv_ishr hx hb dL_change_289 ?_
                    refine lv_iconst (v := 1) hx hb dL_change_290 (by decide) ?_
                    refine lv_iload hx hb dL_change_291 (lv_at hl 6 rfl) ?_
                    refine lv_ishl hx hb dL_change_293 ?_
                    refine W.eq (g2 := F0 m 294 ls [.int (nI (2 ^ N 1)), .int (w >>> (3 &&& 31)), .int (nI (chA N v)), .ref (q 0)]) (congrArg (fun z9 => F0 m 294 ls (.int z9 :: [.int (w >>> (3 &&& 31)), .int (nI (chA N v)), .ref (q 0)])) (sh_1 (N 1) (by omega))) ?_
                    refine ro_S S hkx (mL_low l (v := (w >>> (3 &&& 31))) (k := (2 ^ N 1)) (h0 := (Nat.pow_pos (by decide))) (hk := (Nat.pow_lt_pow_right (by decide) (by omega)))) gL_change_L_low rfl idL_low.2 ⟨Nat.le_of_ble_eq_true rfl, Nat.le_of_ble_eq_true rfl⟩ rfl hl.1 rfl (Nat.le_of_ble_eq_true rfl) dL_change_294 ⟨Nat.le_of_ble_eq_true rfl, Nat.le_of_ble_eq_true rfl⟩ (fun r9 hr9 => ?_)
                    subst hr9
                    refine W.eq (g2 := F0 m 297 ls [.int (nI (lowN (w >>> (3 &&& 31)) (2 ^ N 1))), .int (nI (chA N v)), .ref (q 0)]) rfl ?_
                    refine wn_V S hkx hth (nX5_addUser l hl0 (sa := sa) (A9 := A) (h9 := (fun q h => hA q (Nat.le_trans hS.1 h))) (hP := hP) (hD := hD.weaken (fun _ _ _ _ => trivial)) (hwf := hwf) (hsc := (by omega)) (hv := (chA_lt (by omega))) (hx := (lowN_lt _ (Nat.pow_pos (by decide)))) (h8 := (by omega)) (v := (chA N v)) (x := (lowN (w >>> (3 &&& 31)) (2 ^ N 1)))) gL_change_X5_addUser rfl idX5_addUser ⟨Nat.le_of_ble_eq_true rfl, Nat.le_of_ble_eq_true rfl⟩ hP 0 rfl rfl rfl rfl hl.1 rfl (Nat.le_of_ble_eq_true rfl) dL_change_297 ⟨Nat.le_of_ble_eq_true rfl, Nat.le_of_ble_eq_true rfl⟩ hS (fr_in hD (fun q h => hA q (Nat.le_trans hS.1 h))) (fun v9 H locs hp9 hz1 hk1 hS => ?_)
                    obtain ⟨rfl, hP⟩ := hp9
                    have hP : va_P G vwCl (wMain T q a (va_up N 2 (N 2 + 1)) (uAdd N Z (nI (chA N v)) (nI (lowN (w >>> (3 &&& 31)) (2 ^ N 1)))) (svB sc b) (psh sc M N) (psh sc Y Z) (svC sc) tx L cu er le nb nc) H := hP
                    have hD : va_D A (wMain T q a (va_up N 2 (N 2 + 1)) (uAdd N Z (nI (chA N v)) (nI (lowN (w >>> (3 &&& 31)) (2 ^ N 1)))) (svB sc b) (psh sc M N) (psh sc Y Z) (svC sc) tx L cu er le nb nc) := D_perm hD sv_addr
                    have hth := hth0.kept hS.2.1
                    refine W.eq (g2 := F0 m 300 ls [.int (nI (N 2))]) rfl ?_
                    refine lv_goto (tgt := 304) hx hb dL_change_300 (by decide) ?_
                    have hv9 : chg N Z v w = ((nI (N 2)), (va_up N 2 (N 2 + 1)), (uAdd N Z (nI (chA N v)) (nI (lowN (w >>> (3 &&& 31)) (2 ^ N 1))))) := by rw [hg]; unfold ch3; rw [if_pos (by first | assumption | omega | exact ⟨by first | assumption | omega, by first | assumption | omega⟩ | exact ⟨by first | assumption | omega, by first | assumption | omega, by first | assumption | omega⟩)]
                    exact hret _ H _ _ _ _ _ (show some (Value.int (nI (N 2))) = some (Value.int ((chg N Z v w).1)) ∧ wst G T q a (chg N Z v w).2.1 (chg N Z v w).2.2 b tx L cu er le nb nc H from ⟨by rw [hv9], by rw [hv9]; exact wst_sv hsc hP⟩) rfl hS (Nat.le_of_ble_eq_true rfl) (Nat.le_of_ble_eq_true rfl) dL_change_304
              · refine lv_tableIn (off := 213) (tgt := 305) hx hb dL_change_92 (by decide) (by decide) rfl (by decide) ?_
                have hg : chg N Z v w = ch4 N Z v w := by unfold chg; rw [hcz]; rfl
                refine lv_iload hx hb dL_change_305 (lv_at hl 7 rfl) ?_
                refine lv_if_le (tgt := 328) hx hb dL_change_307 (by decide) (fun c_93 => ?_) (fun c_93 => ?_)
                · replace c_93 := cn_le (a := (N 2)) (b := 0) (by omega) (by omega) c_93
                  refine lv_iconst (v := 0) hx hb dL_change_328 (by decide) ?_
                  have hv9 : chg N Z v w = (0, N, Z) := by rw [hg]; unfold ch4; rw [if_neg (by first | assumption | omega | exact (fun q9 => by first | omega | exact absurd q9.2 (by assumption) | exact absurd q9.2.1 (by assumption) | exact absurd q9.2.2 (by assumption)))]
                  exact hret _ H _ _ _ _ _ (show some (Value.int 0) = some (Value.int ((chg N Z v w).1)) ∧ wst G T q a (chg N Z v w).2.1 (chg N Z v w).2.2 b tx L cu er le nb nc H from ⟨by rw [hv9], by rw [hv9]; exact wst_id hsc hP⟩) rfl hS (Nat.le_of_ble_eq_true rfl) (Nat.le_of_ble_eq_true rfl) dL_change_329
                · replace c_93 := cn_nle (a := (N 2)) (b := 0) (by omega) (by omega) c_93
                  refine lv_aload_n hx hb dL_change_310 rfl (lv_at hl 2 rfl) ?_
                  refine lv_iload hx hb dL_change_311 (lv_at hl 8 rfl) ?_
                  refine lv_iload hx hb dL_change_313 (lv_at hl 9 rfl) ?_
                  refine lv_iload_n hx hb dL_change_315 rfl (lv_at hl 4 rfl) ?_
                  refine lv_sipush (v := 1000) hx hb dL_change_316 (by decide) ?_
                  refine ro_S S hkx (mL_low l (v := w) (k := 1000) (h0 := (by omega)) (hk := (by omega))) gL_change_L_low rfl idL_low.2 ⟨Nat.le_of_ble_eq_true rfl, Nat.le_of_ble_eq_true rfl⟩ rfl hl.1 rfl (Nat.le_of_ble_eq_true rfl) dL_change_319 ⟨Nat.le_of_ble_eq_true rfl, Nat.le_of_ble_eq_true rfl⟩ (fun r9 hr9 => ?_)
                  subst hr9
                  refine W.eq (g2 := F0 m 322 ls [.int (nI (lowN w 1000)), .int (nI (chA N v)), .int (nI (chU N v)), .ref (q 0)]) rfl ?_
                  refine wn_V S hkx hth (nX5_pledge l hl0 (sa := sa) (A9 := A) (h9 := (fun q h => hA q (Nat.le_trans hS.1 h))) (hP := hP) (hD := hD.weaken (fun _ _ _ _ => trivial)) (hwf := hwf) (hsc := (by omega)) (hu := (chU_lt (by omega))) (hv := (chA_lt (u_v hwf (by omega)))) (hd := (by omega)) (u := (chU N v)) (v := (chA N v)) (d := (lowN w 1000))) gL_change_X5_pledge rfl idX5_pledge ⟨Nat.le_of_ble_eq_true rfl, Nat.le_of_ble_eq_true rfl⟩ hP 0 rfl rfl rfl rfl hl.1 rfl (Nat.le_of_ble_eq_true rfl) dL_change_322 ⟨Nat.le_of_ble_eq_true rfl, Nat.le_of_ble_eq_true rfl⟩ hS (fr_in hD (fun q h => hA q (Nat.le_trans hS.1 h))) (fun v9 H locs hp9 hz1 hk1 hS => ?_)
                  obtain ⟨rfl, hP⟩ := hp9
                  have hP : va_P G vwCl (wMain T q a N (uPl Z (chU N v) (nI (chA N v)) (nI (lowN w 1000))) (svB sc b) (psh sc M N) (psh sc Y Z) (svC sc) tx L cu er le nb nc) H := hP
                  have hD : va_D A (wMain T q a N (uPl Z (chU N v) (nI (chA N v)) (nI (lowN w 1000))) (svB sc b) (psh sc M N) (psh sc Y Z) (svC sc) tx L cu er le nb nc) := D_perm hD sv_addr
                  have hth := hth0.kept hS.2.1
                  refine W.eq (g2 := F0 m 325 ls [.int (Z 8 (chU N v))]) rfl ?_
                  refine lv_goto (tgt := 329) hx hb dL_change_325 (by decide) ?_
                  have hv9 : chg N Z v w = ((Z 8 (chU N v)), N, (uPl Z (chU N v) (nI (chA N v)) (nI (lowN w 1000)))) := by rw [hg]; unfold ch4; rw [if_pos (by first | assumption | omega | exact ⟨by first | assumption | omega, by first | assumption | omega⟩ | exact ⟨by first | assumption | omega, by first | assumption | omega, by first | assumption | omega⟩)]
                  exact hret _ H _ _ _ _ _ (show some (Value.int (Z 8 (chU N v))) = some (Value.int ((chg N Z v w).1)) ∧ wst G T q a (chg N Z v w).2.1 (chg N Z v w).2.2 b tx L cu er le nb nc H from ⟨by rw [hv9], by rw [hv9]; exact wst_sv hsc hP⟩) rfl hS (Nat.le_of_ble_eq_true rfl) (Nat.le_of_ble_eq_true rfl) dL_change_329
              · refine lv_tableIn (off := 213) (tgt := 305) hx hb dL_change_92 (by decide) (by decide) rfl (by decide) ?_
                have hg : chg N Z v w = ch4 N Z v w := by unfold chg; rw [hcz]; rfl
                refine lv_iload hx hb dL_change_305 (lv_at hl 7 rfl) ?_
                refine lv_if_le (tgt := 328) hx hb dL_change_307 (by decide) (fun c_94 => ?_) (fun c_94 => ?_)
                · replace c_94 := cn_le (a := (N 2)) (b := 0) (by omega) (by omega) c_94
                  refine lv_iconst (v := 0) hx hb dL_change_328 (by decide) ?_
                  have hv9 : chg N Z v w = (0, N, Z) := by rw [hg]; unfold ch4; rw [if_neg (by first | assumption | omega | exact (fun q9 => by first | omega | exact absurd q9.2 (by assumption) | exact absurd q9.2.1 (by assumption) | exact absurd q9.2.2 (by assumption)))]
                  exact hret _ H _ _ _ _ _ (show some (Value.int 0) = some (Value.int ((chg N Z v w).1)) ∧ wst G T q a (chg N Z v w).2.1 (chg N Z v w).2.2 b tx L cu er le nb nc H from ⟨by rw [hv9], by rw [hv9]; exact wst_id hsc hP⟩) rfl hS (Nat.le_of_ble_eq_true rfl) (Nat.le_of_ble_eq_true rfl) dL_change_329
                · replace c_94 := cn_nle (a := (N 2)) (b := 0) (by omega) (by omega) c_94
                  refine lv_aload_n hx hb dL_change_310 rfl (lv_at hl 2 rfl) ?_
                  refine lv_iload hx hb dL_change_311 (lv_at hl 8 rfl) ?_
                  refine lv_iload hx hb dL_change_313 (lv_at hl 9 rfl) ?_
                  refine lv_iload_n hx hb dL_change_315 rfl (lv_at hl 4 rfl) ?_
                  refine lv_sipush (v := 1000) hx hb dL_change_316 (by decide) ?_
                  refine ro_S S hkx (mL_low l (v := w) (k := 1000) (h0 := (by omega)) (hk := (by omega))) gL_change_L_low rfl idL_low.2 ⟨Nat.le_of_ble_eq_true rfl, Nat.le_of_ble_eq_true rfl⟩ rfl hl.1 rfl (Nat.le_of_ble_eq_true rfl) dL_change_319 ⟨Nat.le_of_ble_eq_true rfl, Nat.le_of_ble_eq_true rfl⟩ (fun r9 hr9 => ?_)
                  subst hr9
                  refine W.eq (g2 := F0 m 322 ls [.int (nI (lowN w 1000)), .int (nI (chA N v)), .int (nI (chU N v)), .ref (q 0)]) rfl ?_
                  refine wn_V S hkx hth (nX5_pledge l hl0 (sa := sa) (A9 := A) (h9 := (fun q h => hA q (Nat.le_trans hS.1 h))) (hP := hP) (hD := hD.weaken (fun _ _ _ _ => trivial)) (hwf := hwf) (hsc := (by omega)) (hu := (chU_lt (by omega))) (hv := (chA_lt (u_v hwf (by omega)))) (hd := (by omega)) (u := (chU N v)) (v := (chA N v)) (d := (lowN w 1000))) gL_change_X5_pledge rfl idX5_pledge ⟨Nat.le_of_ble_eq_true rfl, Nat.le_of_ble_eq_true rfl⟩ hP 0 rfl rfl rfl rfl hl.1 rfl (Nat.le_of_ble_eq_true rfl) dL_change_322 ⟨Nat.le_of_ble_eq_true rfl, Nat.le_of_ble_eq_true rfl⟩ hS (fr_in hD (fun q h => hA q (Nat.le_trans hS.1 h))) (fun v9 H locs hp9 hz1 hk1 hS => ?_)
                  obtain ⟨rfl, hP⟩ := hp9
                  have hP : va_P G vwCl (wMain T q a N (uPl Z (chU N v) (nI (chA N v)) (nI (lowN w 1000))) (svB sc b) (psh sc M N) (psh sc Y Z) (svC sc) tx L cu er le nb nc) H := hP
                  have hD : va_D A (wMain T q a N (uPl Z (chU N v) (nI (chA N v)) (nI (lowN w 1000))) (svB sc b) (psh sc M N) (psh sc Y Z) (svC sc) tx L cu er le nb nc) := D_perm hD sv_addr
                  have hth := hth0.kept hS.2.1
                  refine W.eq (g2 := F0 m 325 ls [.int (Z 8 (chU N v))]) rfl ?_
                  refine lv_goto (tgt := 329) hx hb dL_change_325 (by decide) ?_
                  have hv9 : chg N Z v w = ((Z 8 (chU N v)), N, (uPl Z (chU N v) (nI (chA N v)) (nI (lowN w 1000)))) := by rw [hg]; unfold ch4; rw [if_pos (by first | assumption | omega | exact ⟨by first | assumption | omega, by first | assumption | omega⟩ | exact ⟨by first | assumption | omega, by first | assumption | omega, by first | assumption | omega⟩)]
                  exact hret _ H _ _ _ _ _ (show some (Value.int (Z 8 (chU N v))) = some (Value.int ((chg N Z v w).1)) ∧ wst G T q a (chg N Z v w).2.1 (chg N Z v w).2.2 b tx L cu er le nb nc H from ⟨by rw [hv9], by rw [hv9]; exact wst_sv hsc hP⟩) rfl hS (Nat.le_of_ble_eq_true rfl) (Nat.le_of_ble_eq_true rfl) dL_change_329
              · refine lv_tableIn (off := 238) (tgt := 330) hx hb dL_change_92 (by decide) (by decide) rfl (by decide) ?_
                have hg : chg N Z v w = ch6 N Z v := by unfold chg; rw [hcz]; rfl
                refine lv_iload hx hb dL_change_330 (lv_at hl 7 rfl) ?_
                refine lv_if_le (tgt := 354) hx hb dL_change_332 (by decide) (fun c_95 => ?_) (fun c_95 => ?_)
                · replace c_95 := cn_le (a := (N 2)) (b := 0) (by omega) (by omega) c_95
                  refine lv_iconst (v := 0) hx hb dL_change_354 (by decide) ?_
                  have hv9 : chg N Z v w = (0, N, Z) := by rw [hg]; unfold ch6; rw [if_neg (by first | assumption | omega | exact (fun q9 => by first | omega | exact absurd q9.2 (by assumption) | exact absurd q9.2.1 (by assumption) | exact absurd q9.2.2 (by assumption)))]
                  exact hret _ H _ _ _ _ _ (show some (Value.int 0) = some (Value.int ((chg N Z v w).1)) ∧ wst G T q a (chg N Z v w).2.1 (chg N Z v w).2.2 b tx L cu er le nb nc H from ⟨by rw [hv9], by rw [hv9]; exact wst_id hsc hP⟩) rfl hS (Nat.le_of_ble_eq_true rfl) (Nat.le_of_ble_eq_true rfl) dL_change_355
                · replace c_95 := cn_nle (a := (N 2)) (b := 0) (by omega) (by omega) c_95
                  refine lv_aload_n hx hb dL_change_335 rfl (lv_at hl 2 rfl) ?_
                  refine lv_iload hx hb dL_change_336 (lv_at hl 8 rfl) ?_
                  refine lv_iconst (v := 2) hx hb dL_change_338 (by decide) ?_
                  refine rn_V S hkx hth (nX5_user l hl0 (sa := sa) (h9 := (fun q h => hA q (Nat.le_trans hS.1 h))) (hP := hP) (hwf := hwf) (hu := (chU_lt (by omega))) (hw := (by omega)) (u := (chU N v)) (w := 2)) gL_change_X5_user rfl idX5_user ⟨Nat.le_of_ble_eq_true rfl, Nat.le_of_ble_eq_true rfl⟩ hP 0 rfl rfl rfl rfl hl.1 rfl (Nat.le_of_ble_eq_true rfl) dL_change_339 ⟨Nat.le_of_ble_eq_true rfl, Nat.le_of_ble_eq_true rfl⟩ (fun v9 hv9 => ?_)
                  subst hv9
                  refine W.eq (g2 := F0 m 342 ls [.int (Z 7 (chU N v))]) rfl ?_
                  refine lv_if_lt (tgt := 354) hx hb dL_change_342 (by decide) (fun c_96 => ?_) (fun c_96 => ?_)
                  · have c_96n := Int32.not_le.mpr c_96
                    refine lv_iconst (v := 0) hx hb dL_change_354 (by decide) ?_
                    have hv9 : chg N Z v w = (0, N, Z) := by rw [hg]; unfold ch6; rw [if_neg (by first | assumption | omega | exact (fun q9 => by first | omega | exact absurd q9.2 (by assumption) | exact absurd q9.2.1 (by assumption) | exact absurd q9.2.2 (by assumption)))]
                    exact hret _ H _ _ _ _ _ (show some (Value.int 0) = some (Value.int ((chg N Z v w).1)) ∧ wst G T q a (chg N Z v w).2.1 (chg N Z v w).2.2 b tx L cu er le nb nc H from ⟨by rw [hv9], by rw [hv9]; exact wst_id hsc hP⟩) rfl hS (Nat.le_of_ble_eq_true rfl) (Nat.le_of_ble_eq_true rfl) dL_change_355
                  · have c_96n := Int32.not_lt.mp c_96
                    refine lv_aload_n hx hb dL_change_345 rfl (lv_at hl 2 rfl) ?_
                    refine lv_iload hx hb dL_change_346 (lv_at hl 8 rfl) ?_
                    refine wn_V S hkx hth (nX5_takeBack l hl0 (sa := sa) (A9 := A) (h9 := (fun q h => hA q (Nat.le_trans hS.1 h))) (hP := hP) (hD := hD.weaken (fun _ _ _ _ => trivial)) (hwf := hwf) (hsc := (by omega)) (hu := (chU_lt (by omega))) (hp := (pl_u hwf (chU_lt (by omega)) (by assumption)).1) (u := (chU N v))) gL_change_X5_takeBack rfl idX5_takeBack ⟨Nat.le_of_ble_eq_true rfl, Nat.le_of_ble_eq_true rfl⟩ hP 0 rfl rfl rfl rfl hl.1 rfl (Nat.le_of_ble_eq_true rfl) dL_change_348 ⟨Nat.le_of_ble_eq_true rfl, Nat.le_of_ble_eq_true rfl⟩ hS (fr_in hD (fun q h => hA q (Nat.le_trans hS.1 h))) (fun v9 H locs hp9 hz1 hk1 hS => ?_)
                    obtain ⟨rfl, hP⟩ := hp9
                    have hP : va_P G vwCl (wMain T q a N (uPl Z (chU N v) (-1) (-1)) (svB sc b) (psh sc M N) (psh sc Y Z) (svC sc) tx L cu er le nb nc) H := hP
                    have hD : va_D A (wMain T q a N (uPl Z (chU N v) (-1) (-1)) (svB sc b) (psh sc M N) (psh sc Y Z) (svC sc) tx L cu er le nb nc) := D_perm hD sv_addr
                    have hth := hth0.kept hS.2.1
                    refine W.eq (g2 := F0 m 351 ls [.int (Z 8 (chU N v))]) rfl ?_
                    refine lv_goto (tgt := 355) hx hb dL_change_351 (by decide) ?_
                    have hv9 : chg N Z v w = ((Z 8 (chU N v)), N, (uPl Z (chU N v) (-1) (-1))) := by rw [hg]; unfold ch6; rw [if_pos (by first | assumption | omega | exact ⟨by first | assumption | omega, by first | assumption | omega⟩ | exact ⟨by first | assumption | omega, by first | assumption | omega, by first | assumption | omega⟩)]
                    exact hret _ H _ _ _ _ _ (show some (Value.int (Z 8 (chU N v))) = some (Value.int ((chg N Z v w).1)) ∧ wst G T q a (chg N Z v w).2.1 (chg N Z v w).2.2 b tx L cu er le nb nc H from ⟨by rw [hv9], by rw [hv9]; exact wst_sv hsc hP⟩) rfl hS (Nat.le_of_ble_eq_true rfl) (Nat.le_of_ble_eq_true rfl) dL_change_355
              · refine lv_tableIn (off := 264) (tgt := 356) hx hb dL_change_92 (by decide) (by decide) rfl (by decide) ?_
                have hg : chg N Z v w = ch7 N Z v w := by unfold chg; rw [hcz]; rfl
                refine lv_iload hx hb dL_change_356 (lv_at hl 7 rfl) ?_
                refine lv_if_le (tgt := 401) hx hb dL_change_358 (by decide) (fun c_97 => ?_) (fun c_97 => ?_)
                · replace c_97 := cn_le (a := (N 2)) (b := 0) (by omega) (by omega) c_97
                  refine lv_iconst (v := 0) hx hb dL_change_401 (by decide) ?_
                  have hv9 : chg N Z v w = (0, N, Z) := by rw [hg]; unfold ch7; rw [if_neg (by first | assumption | omega | exact (fun q9 => by first | omega | exact absurd q9.2 (by assumption) | exact absurd q9.2.1 (by assumption) | exact absurd q9.2.2 (by assumption)))]
                  exact hret _ H _ _ _ _ _ (show some (Value.int 0) = some (Value.int ((chg N Z v w).1)) ∧ wst G T q a (chg N Z v w).2.1 (chg N Z v w).2.2 b tx L cu er le nb nc H from ⟨by rw [hv9], by rw [hv9]; exact wst_id hsc hP⟩) rfl hS (Nat.le_of_ble_eq_true rfl) (Nat.le_of_ble_eq_true rfl) dL_change_402
                · replace c_97 := cn_nle (a := (N 2)) (b := 0) (by omega) (by omega) c_97
                  refine lv_aload_n hx hb dL_change_361 rfl (lv_at hl 2 rfl) ?_
                  refine lv_iload hx hb dL_change_362 (lv_at hl 8 rfl) ?_
                  refine lv_iconst (v := 2) hx hb dL_change_364 (by decide) ?_
                  refine rn_V S hkx hth (nX5_user l hl0 (sa := sa) (h9 := (fun q h => hA q (Nat.le_trans hS.1 h))) (hP := hP) (hwf := hwf) (hu := (chU_lt (by omega))) (hw := (by omega)) (u := (chU N v)) (w := 2)) gL_change_X5_user rfl idX5_user ⟨Nat.le_of_ble_eq_true rfl, Nat.le_of_ble_eq_true rfl⟩ hP 0 rfl rfl rfl rfl hl.1 rfl (Nat.le_of_ble_eq_true rfl) dL_change_365 ⟨Nat.le_of_ble_eq_true rfl, Nat.le_of_ble_eq_true rfl⟩ (fun v9 hv9 => ?_)
                  subst hv9
                  refine W.eq (g2 := F0 m 368 ls [.int (Z 7 (chU N v))]) rfl ?_
                  refine lv_if_lt (tgt := 401) hx hb dL_change_368 (by decide) (fun c_98 => ?_) (fun c_98 => ?_)
                  · have c_98n := Int32.not_le.mpr c_98
                    refine lv_iconst (v := 0) hx hb dL_change_401 (by decide) ?_
                    have hv9 : chg N Z v w = (0, N, Z) := by rw [hg]; unfold ch7; rw [if_neg (by first | assumption | omega | exact (fun q9 => by first | omega | exact absurd q9.2 (by assumption) | exact absurd q9.2.1 (by assumption) | exact absurd q9.2.2 (by assumption)))]
                    exact hret _ H _ _ _ _ _ (show some (Value.int 0) = some (Value.int ((chg N Z v w).1)) ∧ wst G T q a (chg N Z v w).2.1 (chg N Z v w).2.2 b tx L cu er le nb nc H from ⟨by rw [hv9], by rw [hv9]; exact wst_id hsc hP⟩) rfl hS (Nat.le_of_ble_eq_true rfl) (Nat.le_of_ble_eq_true rfl) dL_change_402
                  · have c_98n := Int32.not_lt.mp c_98
                    refine lv_aload_n hx hb dL_change_371 rfl (lv_at hl 2 rfl) ?_
                    refine lv_iload hx hb dL_change_372 (lv_at hl 8 rfl) ?_
                    refine lv_iconst (v := 3) hx hb dL_change_374 (by decide) ?_
                    refine rn_V S hkx hth (nX5_user l hl0 (sa := sa) (h9 := (fun q h => hA q (Nat.le_trans hS.1 h))) (hP := hP) (hwf := hwf) (hu := (chU_lt (by omega))) (hw := (by omega)) (u := (chU N v)) (w := 3)) gL_change_X5_user rfl idX5_user ⟨Nat.le_of_ble_eq_true rfl, Nat.le_of_ble_eq_true rfl⟩ hP 0 rfl rfl rfl rfl hl.1 rfl (Nat.le_of_ble_eq_true rfl) dL_change_375 ⟨Nat.le_of_ble_eq_true rfl, Nat.le_of_ble_eq_true rfl⟩ (fun v9 hv9 => ?_)
                    subst hv9
                    refine W.eq (g2 := F0 m 378 ls [.int (Z 8 (chU N v))]) rfl ?_
                    refine lv_sipush (v := 900) hx hb dL_change_378 (by decide) ?_
                    refine lv_icmp_ge (tgt := 401) hx hb dL_change_381 (by decide) (fun c_99 => ?_) (fun c_99 => ?_)
                    · have c_99n := Int32.not_lt.mpr c_99
                      refine lv_iconst (v := 0) hx hb dL_change_401 (by decide) ?_
                      have hv9 : chg N Z v w = (0, N, Z) := by rw [hg]; unfold ch7; rw [if_neg (by first | assumption | omega | exact (fun q9 => by first | omega | exact absurd q9.2 (by assumption) | exact absurd q9.2.1 (by assumption) | exact absurd q9.2.2 (by assumption)))]
                      exact hret _ H _ _ _ _ _ (show some (Value.int 0) = some (Value.int ((chg N Z v w).1)) ∧ wst G T q a (chg N Z v w).2.1 (chg N Z v w).2.2 b tx L cu er le nb nc H from ⟨by rw [hv9], by rw [hv9]; exact wst_id hsc hP⟩) rfl hS (Nat.le_of_ble_eq_true rfl) (Nat.le_of_ble_eq_true rfl) dL_change_402
                    · have c_99n := Int32.not_le.mp c_99
                      refine lv_aload_n hx hb dL_change_384 rfl (lv_at hl 2 rfl) ?_
                      refine lv_iload hx hb dL_change_385 (lv_at hl 8 rfl) ?_
                      refine lv_iconst (v := 1) hx hb dL_change_387 (by decide) ?_
                      refine lv_iload_n hx hb dL_change_388 rfl (lv_at hl 4 rfl) ?_
                      refine lv_bipush (v := 99) hx hb dL_change_389 (by decide) ?_
                      refine ro_S S hkx (mL_low l (v := w) (k := 99) (h0 := (by omega)) (hk := (by omega))) gL_change_L_low rfl idL_low.2 ⟨Nat.le_of_ble_eq_true rfl, Nat.le_of_ble_eq_true rfl⟩ rfl hl.1 rfl (Nat.le_of_ble_eq_true rfl) dL_change_391 ⟨Nat.le_of_ble_eq_true rfl, Nat.le_of_ble_eq_true rfl⟩ (fun r9 hr9 => ?_)
                      subst hr9
                      refine W.eq (g2 := F0 m 394 ls [.int (nI (lowN w 99)), .int 1, .int (nI (chU N v)), .ref (q 0)]) rfl ?_
                      refine lv_iadd hx hb dL_change_394 ?_
                      refine W.eq (g2 := F0 m 395 ls [.int (nI (1 + (lowN w 99))), .int (nI (chU N v)), .ref (q 0)]) (congrArg (fun z9 => F0 m 395 ls (.int z9 :: [.int (nI (chU N v)), .ref (q 0)])) (nI_add 1 _)) ?_
                      refine wn_V S hkx hth (nX5_slip l hl0 (sa := sa) (A9 := A) (h9 := (fun q h => hA q (Nat.le_trans hS.1 h))) (hP := hP) (hD := hD.weaken (fun _ _ _ _ => trivial)) (hwf := hwf) (hsc := (by omega)) (hu := (chU_lt (by omega))) (ht1 := (by omega)) (ht := (by omega)) (hp := (pl_u hwf (chU_lt (by omega)) (by assumption)).1) (h9d := (sl_rng hwf (chU_lt (by omega)) (by assumption) (by assumption) (by omega))) (u := (chU N v)) (t := (1 + (lowN w 99)))) gL_change_X5_slip rfl idX5_slip ⟨Nat.le_of_ble_eq_true rfl, Nat.le_of_ble_eq_true rfl⟩ hP 0 rfl rfl rfl rfl hl.1 rfl (Nat.le_of_ble_eq_true rfl) dL_change_395 ⟨Nat.le_of_ble_eq_true rfl, Nat.le_of_ble_eq_true rfl⟩ hS (fr_in hD (fun q h => hA q (Nat.le_trans hS.1 h))) (fun v9 H locs hp9 hz1 hk1 hS => ?_)
                      obtain ⟨rfl, hP⟩ := hp9
                      have hP : va_P G vwCl (wMain T q a N (uSl Z (chU N v) (nI (1 + (lowN w 99)))) (svB sc b) (psh sc M N) (psh sc Y Z) (svC sc) tx L cu er le nb nc) H := hP
                      have hD : va_D A (wMain T q a N (uSl Z (chU N v) (nI (1 + (lowN w 99)))) (svB sc b) (psh sc M N) (psh sc Y Z) (svC sc) tx L cu er le nb nc) := D_perm hD sv_addr
                      have hth := hth0.kept hS.2.1
                      refine W.eq (g2 := F0 m 398 ls [.int (uSl Z (chU N v) (nI (1 + (lowN w 99))) 8 (chU N v))]) rfl ?_
                      refine lv_goto (tgt := 402) hx hb dL_change_398 (by decide) ?_
                      have hv9 : chg N Z v w = ((uSl Z (chU N v) (nI (1 + (lowN w 99))) 8 (chU N v)), N, (uSl Z (chU N v) (nI (1 + (lowN w 99))))) := by rw [hg]; unfold ch7; rw [if_pos (by first | assumption | omega | exact ⟨by first | assumption | omega, by first | assumption | omega⟩ | exact ⟨by first | assumption | omega, by first | assumption | omega, by first | assumption | omega⟩)]
                      exact hret _ H _ _ _ _ _ (show some (Value.int (uSl Z (chU N v) (nI (1 + (lowN w 99))) 8 (chU N v))) = some (Value.int ((chg N Z v w).1)) ∧ wst G T q a (chg N Z v w).2.1 (chg N Z v w).2.2 b tx L cu er le nb nc H from ⟨by rw [hv9], by rw [hv9]; exact wst_sv hsc hP⟩) rfl hS (Nat.le_of_ble_eq_true rfl) (Nat.le_of_ble_eq_true rfl) dL_change_402
              · refine lv_tableIn (off := 311) (tgt := 403) hx hb dL_change_92 (by decide) (by decide) rfl (by decide) ?_
                have hg : chg N Z v w = ch8 N Z v w := by unfold chg; rw [hcz]; rfl
                refine lv_iload_n hx hb dL_change_403 rfl (lv_at hl 5 rfl) ?_
                refine lv_if_le (tgt := 437) hx hb dL_change_404 (by decide) (fun c_100 => ?_) (fun c_100 => ?_)
                · replace c_100 := cn_le (a := (N 0)) (b := 0) (by omega) (by omega) c_100
                  refine lv_iconst (v := 0) hx hb dL_change_437 (by decide) ?_
                  have hv9 : chg N Z v w = (0, N, Z) := by rw [hg]; unfold ch8; rw [if_neg (by first | assumption | omega | exact (fun q9 => by first | omega | exact absurd q9.2 (by assumption) | exact absurd q9.2.1 (by assumption) | exact absurd q9.2.2 (by assumption)))]
                  exact hret _ H _ _ _ _ _ (show some (Value.int 0) = some (Value.int ((chg N Z v w).1)) ∧ wst G T q a (chg N Z v w).2.1 (chg N Z v w).2.2 b tx L cu er le nb nc H from ⟨by rw [hv9], by rw [hv9]; exact wst_id hsc hP⟩) rfl hS (Nat.le_of_ble_eq_true rfl) (Nat.le_of_ble_eq_true rfl) dL_change_438
                · replace c_100 := cn_nle (a := (N 0)) (b := 0) (by omega) (by omega) c_100
                  refine lv_aload_n hx hb dL_change_407 rfl (lv_at hl 2 rfl) ?_
                  refine lv_iload hx hb dL_change_408 (lv_at hl 9 rfl) ?_
                  refine lv_iconst (v := 1) hx hb dL_change_410 (by decide) ?_
                  refine rn_V S hkx hth (nX5_version l hl0 (sa := sa) (h9 := (fun q h => hA q (Nat.le_trans hS.1 h))) (hP := hP) (hwf := hwf) (hv := (chA_lt (by omega))) (hw := (by omega)) (v := (chA N v)) (w := 1)) gL_change_X5_version rfl idX5_version ⟨Nat.le_of_ble_eq_true rfl, Nat.le_of_ble_eq_true rfl⟩ hP 0 rfl rfl rfl rfl hl.1 rfl (Nat.le_of_ble_eq_true rfl) dL_change_411 ⟨Nat.le_of_ble_eq_true rfl, Nat.le_of_ble_eq_true rfl⟩ (fun v9 hv9 => ?_)
                  subst hv9
                  refine W.eq (g2 := F0 m 414 ls [.int (Z 2 (chA N v))]) rfl ?_
                  refine lv_sipush (v := 900) hx hb dL_change_414 (by decide) ?_
                  refine lv_icmp_ge (tgt := 437) hx hb dL_change_417 (by decide) (fun c_101 => ?_) (fun c_101 => ?_)
                  · have c_101n := Int32.not_lt.mpr c_101
                    refine lv_iconst (v := 0) hx hb dL_change_437 (by decide) ?_
                    have hv9 : chg N Z v w = (0, N, Z) := by rw [hg]; unfold ch8; rw [if_neg (by first | assumption | omega | exact (fun q9 => by first | omega | exact absurd q9.2 (by assumption) | exact absurd q9.2.1 (by assumption) | exact absurd q9.2.2 (by assumption)))]
                    exact hret _ H _ _ _ _ _ (show some (Value.int 0) = some (Value.int ((chg N Z v w).1)) ∧ wst G T q a (chg N Z v w).2.1 (chg N Z v w).2.2 b tx L cu er le nb nc H from ⟨by rw [hv9], by rw [hv9]; exact wst_id hsc hP⟩) rfl hS (Nat.le_of_ble_eq_true rfl) (Nat.le_of_ble_eq_true rfl) dL_change_438
                  · have c_101n := Int32.not_le.mp c_101
                    refine lv_aload_n hx hb dL_change_420 rfl (lv_at hl 2 rfl) ?_
                    refine lv_iload hx hb dL_change_421 (lv_at hl 9 rfl) ?_
                    refine lv_iconst (v := 1) hx hb dL_change_423 (by decide) ?_
                    refine lv_iload_n hx hb dL_change_424 rfl (lv_at hl 4 rfl) ?_
                    refine lv_bipush (v := 99) hx hb dL_change_425 (by decide) ?_
                    refine ro_S S hkx (mL_low l (v := w) (k := 99) (h0 := (by omega)) (hk := (by omega))) gL_change_L_low rfl idL_low.2 ⟨Nat.le_of_ble_eq_true rfl, Nat.le_of_ble_eq_true rfl⟩ rfl hl.1 rfl (Nat.le_of_ble_eq_true rfl) dL_change_427 ⟨Nat.le_of_ble_eq_true rfl, Nat.le_of_ble_eq_true rfl⟩ (fun r9 hr9 => ?_)
                    subst hr9
                    refine W.eq (g2 := F0 m 430 ls [.int (nI (lowN w 99)), .int 1, .int (nI (chA N v)), .ref (q 0)]) rfl ?_
                    refine lv_iadd hx hb dL_change_430 ?_
                    refine W.eq (g2 := F0 m 431 ls [.int (nI (1 + (lowN w 99))), .int (nI (chA N v)), .ref (q 0)]) (congrArg (fun z9 => F0 m 431 ls (.int z9 :: [.int (nI (chA N v)), .ref (q 0)])) (nI_add 1 _)) ?_
                    refine wn_V S hkx hth (nX5_extend l hl0 (sa := sa) (A9 := A) (h9 := (fun q h => hA q (Nat.le_trans hS.1 h))) (hP := hP) (hD := hD.weaken (fun _ _ _ _ => trivial)) (hwf := hwf) (hsc := (by omega)) (hv := (chA_lt (by omega))) (ht1 := (by omega)) (ht := (by omega)) (h9d := (ex_rng hwf (chA_lt (by omega)) (by assumption) (by omega))) (v := (chA N v)) (t := (1 + (lowN w 99)))) gL_change_X5_extend rfl idX5_extend ⟨Nat.le_of_ble_eq_true rfl, Nat.le_of_ble_eq_true rfl⟩ hP 0 rfl rfl rfl rfl hl.1 rfl (Nat.le_of_ble_eq_true rfl) dL_change_431 ⟨Nat.le_of_ble_eq_true rfl, Nat.le_of_ble_eq_true rfl⟩ hS (fr_in hD (fun q h => hA q (Nat.le_trans hS.1 h))) (fun v9 H locs hp9 hz1 hk1 hS => ?_)
                    obtain ⟨rfl, hP⟩ := hp9
                    have hP : va_P G vwCl (wMain T q a N (vExt Z (chA N v) (nI (1 + (lowN w 99)))) (svB sc b) (psh sc M N) (psh sc Y Z) (svC sc) tx L cu er le nb nc) H := hP
                    have hD : va_D A (wMain T q a N (vExt Z (chA N v) (nI (1 + (lowN w 99)))) (svB sc b) (psh sc M N) (psh sc Y Z) (svC sc) tx L cu er le nb nc) := D_perm hD sv_addr
                    have hth := hth0.kept hS.2.1
                    refine W.eq (g2 := F0 m 434 ls [.int (vExt Z (chA N v) (nI (1 + (lowN w 99))) 2 (chA N v))]) rfl ?_
                    refine lv_goto (tgt := 438) hx hb dL_change_434 (by decide) ?_
                    have hv9 : chg N Z v w = ((vExt Z (chA N v) (nI (1 + (lowN w 99))) 2 (chA N v)), N, (vExt Z (chA N v) (nI (1 + (lowN w 99))))) := by rw [hg]; unfold ch8; rw [if_pos (by first | assumption | omega | exact ⟨by first | assumption | omega, by first | assumption | omega⟩ | exact ⟨by first | assumption | omega, by first | assumption | omega, by first | assumption | omega⟩)]
                    exact hret _ H _ _ _ _ _ (show some (Value.int (vExt Z (chA N v) (nI (1 + (lowN w 99))) 2 (chA N v))) = some (Value.int ((chg N Z v w).1)) ∧ wst G T q a (chg N Z v w).2.1 (chg N Z v w).2.2 b tx L cu er le nb nc H from ⟨by rw [hv9], by rw [hv9]; exact wst_sv hsc hP⟩) rfl hS (Nat.le_of_ble_eq_true rfl) (Nat.le_of_ble_eq_true rfl) dL_change_438
              · refine lv_tableIn (off := 347) (tgt := 439) hx hb dL_change_92 (by decide) (by decide) rfl (by decide) ?_
                have hg : chg N Z v w = ch9 N Z v w := by unfold chg; rw [hcz]; rfl
                refine lv_iload_n hx hb dL_change_439 rfl (lv_at hl 4 rfl) ?_
                refine lv_sipush (v := 600) hx hb dL_change_440 (by decide) ?_
                refine ro_S S hkx (mL_low l (v := w) (k := 600) (h0 := (by omega)) (hk := (by omega))) gL_change_L_low rfl idL_low.2 ⟨Nat.le_of_ble_eq_true rfl, Nat.le_of_ble_eq_true rfl⟩ rfl hl.1 rfl (Nat.le_of_ble_eq_true rfl) dL_change_443 ⟨Nat.le_of_ble_eq_true rfl, Nat.le_of_ble_eq_true rfl⟩ (fun r9 hr9 => ?_)
                subst hr9
                refine W.eq (g2 := F0 m 446 ls [.int (nI (lowN w 600))]) rfl ?_
                refine lv_istore (lv' := [(10, .int (nI (lowN w 600))), (9, .int (nI (lowN w 200))), (8, .int (nI (chF N v))), (0, .ref (q 0)), (1, .int v), (2, .int w), (3, .int (nI (N 0))), (4, .int (nI (N 1))), (5, .int (nI (N 2))), (6, .int (nI (chU N v))), (7, .int (nI (chA N v)))]) hx hb dL_change_446 hl (by decide) rfl (fun ls hl => ?_)
                refine lv_iload_n hx hb dL_change_448 rfl (lv_at hl 6 rfl) ?_
                refine lv_if_le (tgt := 506) hx hb dL_change_449 (by decide) (fun c_102 => ?_) (fun c_102 => ?_)
                · replace c_102 := cn_le (a := (N 0)) (b := 0) (by omega) (by omega) c_102
                  refine lv_iconst (v := 0) hx hb dL_change_506 (by decide) ?_
                  have hv9 : chg N Z v w = (0, N, Z) := by rw [hg]; unfold ch9; rw [if_neg (by first | assumption | omega | exact (fun q9 => by first | omega | exact absurd q9.2 (by assumption) | exact absurd q9.2.1 (by assumption) | exact absurd q9.2.2 (by assumption)))]
                  exact hret _ H _ _ _ _ _ (show some (Value.int 0) = some (Value.int ((chg N Z v w).1)) ∧ wst G T q a (chg N Z v w).2.1 (chg N Z v w).2.2 b tx L cu er le nb nc H from ⟨by rw [hv9], by rw [hv9]; exact wst_id hsc hP⟩) rfl hS (Nat.le_of_ble_eq_true rfl) (Nat.le_of_ble_eq_true rfl) dL_change_507
                · replace c_102 := cn_nle (a := (N 0)) (b := 0) (by omega) (by omega) c_102
                  refine lv_iload hx hb dL_change_452 (lv_at hl 7 rfl) ?_
                  refine lv_if_le (tgt := 506) hx hb dL_change_454 (by decide) (fun c_103 => ?_) (fun c_103 => ?_)
                  · replace c_103 := cn_le (a := (N 1)) (b := 0) (by omega) (by omega) c_103
                    refine lv_iconst (v := 0) hx hb dL_change_506 (by decide) ?_
                    have hv9 : chg N Z v w = (0, N, Z) := by rw [hg]; unfold ch9; rw [if_neg (by first | assumption | omega | exact (fun q9 => by first | omega | exact absurd q9.2 (by assumption) | exact absurd q9.2.1 (by assumption) | exact absurd q9.2.2 (by assumption)))]
                    exact hret _ H _ _ _ _ _ (show some (Value.int 0) = some (Value.int ((chg N Z v w).1)) ∧ wst G T q a (chg N Z v w).2.1 (chg N Z v w).2.2 b tx L cu er le nb nc H from ⟨by rw [hv9], by rw [hv9]; exact wst_id hsc hP⟩) rfl hS (Nat.le_of_ble_eq_true rfl) (Nat.le_of_ble_eq_true rfl) dL_change_507
                  · replace c_103 := cn_nle (a := (N 1)) (b := 0) (by omega) (by omega) c_103
                    refine lv_aload_n hx hb dL_change_457 rfl (lv_at hl 3 rfl) ?_
                    refine lv_iconst (v := 3) hx hb dL_change_458 (by decide) ?_
                    refine rn_V S hkx hth (nX5_value l hl0 (sa := sa) (h9 := (fun q h => hA q (Nat.le_trans hS.1 h))) (hP := hP) (hwf := hwf) (hw := (by omega)) (w := 3)) gL_change_X5_value rfl idX5_value ⟨Nat.le_of_ble_eq_true rfl, Nat.le_of_ble_eq_true rfl⟩ hP 0 rfl rfl rfl rfl hl.1 rfl (Nat.le_of_ble_eq_true rfl) dL_change_459 ⟨Nat.le_of_ble_eq_true rfl, Nat.le_of_ble_eq_true rfl⟩ (fun v9 hv9 => ?_)
                    subst hv9
                    refine W.eq (g2 := F0 m 462 ls [.int (nI (N 3))]) rfl ?_
                    refine lv_bipush (v := 6) hx hb dL_change_462 (by decide) ?_
                    refine lv_icmp_ge (tgt := 506) hx hb dL_change_464 (by decide) (fun c_104 => ?_) (fun c_104 => ?_)
                    · replace c_104 := cn_le (a := 6) (b := (N 3)) (by omega) (by omega) c_104
                      refine lv_iconst (v := 0) hx hb dL_change_506 (by decide) ?_
                      have hv9 : chg N Z v w = (0, N, Z) := by rw [hg]; unfold ch9; rw [if_neg (by first | assumption | omega | exact (fun q9 => by first | omega | exact absurd q9.2 (by assumption) | exact absurd q9.2.1 (by assumption) | exact absurd q9.2.2 (by assumption)))]
                      exact hret _ H _ _ _ _ _ (show some (Value.int 0) = some (Value.int ((chg N Z v w).1)) ∧ wst G T q a (chg N Z v w).2.1 (chg N Z v w).2.2 b tx L cu er le nb nc H from ⟨by rw [hv9], by rw [hv9]; exact wst_id hsc hP⟩) rfl hS (Nat.le_of_ble_eq_true rfl) (Nat.le_of_ble_eq_true rfl) dL_change_507
                    · replace c_104 := cn_nle (a := 6) (b := (N 3)) (by omega) (by omega) c_104
                      refine lv_aload_n hx hb dL_change_467 rfl (lv_at hl 3 rfl) ?_
                      refine lv_iload hx hb dL_change_468 (lv_at hl 2 rfl) ?_
                      refine lv_iload hx hb dL_change_470 (lv_at hl 10 rfl) ?_
                      refine lv_iload hx hb dL_change_472 (lv_at hl 0 rfl) ?_
                      refine lv_iload hx hb dL_change_474 (lv_at hl 0 rfl) ?_
                      refine lv_iload_n hx hb dL_change_476 rfl (lv_at hl 5 rfl) ?_
                      refine lv_bipush (v := 10) hx hb dL_change_477 (by decide) ?_
                      refine lv_ishr hx hb dL_change_479 ?_
                      refine lv_sipush (v := 1000) hx hb dL_change_480 (by decide) ?_
                      refine lv_iload hx hb dL_change_483 (lv_at hl 0 rfl) ?_
                      refine lv_isub hx hb dL_change_485 ?_
                      refine W.eq (g2 := F0 m 486 ls [.int (nI (1000 - (lowN w 600))), .int (w >>> (10 &&& 31)), .int (nI (lowN w 600)), .int (nI (lowN w 600)), .int (nI (chA N v)), .int (nI (chF N v)), .ref (q 0)]) (congrArg (fun z9 => F0 m 486 ls (.int z9 :: [.int (w >>> (10 &&& 31)), .int (nI (lowN w 600)), .int (nI (lowN w 600)), .int (nI (chA N v)), .int (nI (chF N v)), .ref (q 0)])) (pk_sub (a := 1000) (b := (lowN w 600)) (by omega))) ?_
                      refine ro_S S hkx (mL_low l (v := (w >>> (10 &&& 31))) (k := (1000 - (lowN w 600))) (h0 := (by omega)) (hk := (by omega))) gL_change_L_low rfl idL_low.2 ⟨Nat.le_of_ble_eq_true rfl, Nat.le_of_ble_eq_true rfl⟩ rfl hl.1 rfl (Nat.le_of_ble_eq_true rfl) dL_change_486 ⟨Nat.le_of_ble_eq_true rfl, Nat.le_of_ble_eq_true rfl⟩ (fun r9 hr9 => ?_)
                      subst hr9
                      refine W.eq (g2 := F0 m 489 ls [.int (nI (lowN (w >>> (10 &&& 31)) (1000 - (lowN w 600)))), .int (nI (lowN w 600)), .int (nI (lowN w 600)), .int (nI (chA N v)), .int (nI (chF N v)), .ref (q 0)]) rfl ?_
                      refine lv_iadd hx hb dL_change_489 ?_
                      refine W.eq (g2 := F0 m 490 ls [.int (nI ((lowN w 600) + (lowN (w >>> (10 &&& 31)) (1000 - (lowN w 600))))), .int (nI (lowN w 600)), .int (nI (chA N v)), .int (nI (chF N v)), .ref (q 0)]) (congrArg (fun z9 => F0 m 490 ls (.int z9 :: [.int (nI (lowN w 600)), .int (nI (chA N v)), .int (nI (chF N v)), .ref (q 0)])) (nI_add _ _)) ?_
                      refine lv_iconst (v := 1) hx hb dL_change_490 (by decide) ?_
                      refine lv_iload_n hx hb dL_change_491 rfl (lv_at hl 5 rfl) ?_
                      refine lv_iconst (v := 4) hx hb dL_change_492 (by decide) ?_
                      refine lv_ishr hx hb dL_change_493 ?_
                      refine lv_bipush (v := 99) hx hb dL_change_494 (by decide) ?_
                      refine ro_S S hkx (mL_low l (v := (w >>> (4 &&& 31))) (k := 99) (h0 := (by omega)) (hk := (by omega))) gL_change_L_low rfl idL_low.2 ⟨Nat.le_of_ble_eq_true rfl, Nat.le_of_ble_eq_true rfl⟩ rfl hl.1 rfl (Nat.le_of_ble_eq_true rfl) dL_change_496 ⟨Nat.le_of_ble_eq_true rfl, Nat.le_of_ble_eq_true rfl⟩ (fun r9 hr9 => ?_)
                      subst hr9
                      refine W.eq (g2 := F0 m 499 ls [.int (nI (lowN (w >>> (4 &&& 31)) 99)), .int 1, .int (nI ((lowN w 600) + (lowN (w >>> (10 &&& 31)) (1000 - (lowN w 600))))), .int (nI (lowN w 600)), .int (nI (chA N v)), .int (nI (chF N v)), .ref (q 0)]) rfl ?_
                      refine lv_iadd hx hb dL_change_499 ?_
                      refine W.eq (g2 := F0 m 500 ls [.int (nI (1 + (lowN (w >>> (4 &&& 31)) 99))), .int (nI ((lowN w 600) + (lowN (w >>> (10 &&& 31)) (1000 - (lowN w 600))))), .int (nI (lowN w 600)), .int (nI (chA N v)), .int (nI (chF N v)), .ref (q 0)]) (congrArg (fun z9 => F0 m 500 ls (.int z9 :: [.int (nI ((lowN w 600) + (lowN (w >>> (10 &&& 31)) (1000 - (lowN w 600))))), .int (nI (lowN w 600)), .int (nI (chA N v)), .int (nI (chF N v)), .ref (q 0)])) (nI_add 1 _)) ?_
                      refine wn_V S hkx hth (nX5_addShim l hl0 (sa := sa) (A9 := A) (h9 := (fun q h => hA q (Nat.le_trans hS.1 h))) (hP := hP) (hD := hD.weaken (fun _ _ _ _ => trivial)) (hwf := hwf) (hsc := (by omega)) (hf := (chF_lt (by omega))) (hv := (chA_lt (by omega))) (hx := (by omega)) (hz := (by omega)) (hy1 := (by omega)) (hy := (by omega)) (h8 := (by omega)) (f := (chF N v)) (v := (chA N v)) (x := (lowN w 600)) (z := ((lowN w 600) + (lowN (w >>> (10 &&& 31)) (1000 - (lowN w 600))))) (y := (1 + (lowN (w >>> (4 &&& 31)) 99)))) gL_change_X5_addShim rfl idX5_addShim ⟨Nat.le_of_ble_eq_true rfl, Nat.le_of_ble_eq_true rfl⟩ hP 0 rfl rfl rfl rfl hl.1 rfl (Nat.le_of_ble_eq_true rfl) dL_change_500 ⟨Nat.le_of_ble_eq_true rfl, Nat.le_of_ble_eq_true rfl⟩ hS (fr_in hD (fun q h => hA q (Nat.le_trans hS.1 h))) (fun v9 H locs hp9 hz1 hk1 hS => ?_)
                      obtain ⟨rfl, hP⟩ := hp9
                      have hP : va_P G vwCl (wMain T q a (va_up N 3 (N 3 + 1)) (sAdd N Z (nI (chF N v)) (nI (chA N v)) (nI (lowN w 600)) (nI ((lowN w 600) + (lowN (w >>> (10 &&& 31)) (1000 - (lowN w 600))))) (nI (1 + (lowN (w >>> (4 &&& 31)) 99)))) (svB sc b) (psh sc M N) (psh sc Y Z) (svC sc) tx L cu er le nb nc) H := hP
                      have hD : va_D A (wMain T q a (va_up N 3 (N 3 + 1)) (sAdd N Z (nI (chF N v)) (nI (chA N v)) (nI (lowN w 600)) (nI ((lowN w 600) + (lowN (w >>> (10 &&& 31)) (1000 - (lowN w 600))))) (nI (1 + (lowN (w >>> (4 &&& 31)) 99)))) (svB sc b) (psh sc M N) (psh sc Y Z) (svC sc) tx L cu er le nb nc) := D_perm hD sv_addr
                      have hth := hth0.kept hS.2.1
                      refine W.eq (g2 := F0 m 503 ls [.int (nI (N 3))]) rfl ?_
                      refine lv_goto (tgt := 507) hx hb dL_change_503 (by decide) ?_
                      have hv9 : chg N Z v w = ((nI (N 3)), (va_up N 3 (N 3 + 1)), (sAdd N Z (nI (chF N v)) (nI (chA N v)) (nI (lowN w 600)) (nI ((lowN w 600) + (lowN (w >>> (10 &&& 31)) (1000 - (lowN w 600))))) (nI (1 + (lowN (w >>> (4 &&& 31)) 99))))) := by rw [hg]; unfold ch9; rw [if_pos (by first | assumption | omega | exact ⟨by first | assumption | omega, by first | assumption | omega⟩ | exact ⟨by first | assumption | omega, by first | assumption | omega, by first | assumption | omega⟩)]
                      exact hret _ H _ _ _ _ _ (show some (Value.int (nI (N 3))) = some (Value.int ((chg N Z v w).1)) ∧ wst G T q a (chg N Z v w).2.1 (chg N Z v w).2.2 b tx L cu er le nb nc H from ⟨by rw [hv9], by rw [hv9]; exact wst_sv hsc hP⟩) rfl hS (Nat.le_of_ble_eq_true rfl) (Nat.le_of_ble_eq_true rfl) dL_change_507
              · refine lv_tableIn (off := 347) (tgt := 439) hx hb dL_change_92 (by decide) (by decide) rfl (by decide) ?_
                have hg : chg N Z v w = ch9 N Z v w := by unfold chg; rw [hcz]; rfl
                refine lv_iload_n hx hb dL_change_439 rfl (lv_at hl 4 rfl) ?_
                refine lv_sipush (v := 600) hx hb dL_change_440 (by decide) ?_
                refine ro_S S hkx (mL_low l (v := w) (k := 600) (h0 := (by omega)) (hk := (by omega))) gL_change_L_low rfl idL_low.2 ⟨Nat.le_of_ble_eq_true rfl, Nat.le_of_ble_eq_true rfl⟩ rfl hl.1 rfl (Nat.le_of_ble_eq_true rfl) dL_change_443 ⟨Nat.le_of_ble_eq_true rfl, Nat.le_of_ble_eq_true rfl⟩ (fun r9 hr9 => ?_)
                subst hr9
                refine W.eq (g2 := F0 m 446 ls [.int (nI (lowN w 600))]) rfl ?_
                refine lv_istore (lv' := [(10, .int (nI (lowN w 600))), (9, .int (nI (lowN w 200))), (8, .int (nI (chF N v))), (0, .ref (q 0)), (1, .int v), (2, .int w), (3, .int (nI (N 0))), (4, .int (nI (N 1))), (5, .int (nI (N 2))), (6, .int (nI (chU N v))), (7, .int (nI (chA N v)))]) hx hb dL_change_446 hl (by decide) rfl (fun ls hl => ?_)
                refine lv_iload_n hx hb dL_change_448 rfl (lv_at hl 6 rfl) ?_
                refine lv_if_le (tgt := 506) hx hb dL_change_449 (by decide) (fun c_105 => ?_) (fun c_105 => ?_)
                · replace c_105 := cn_le (a := (N 0)) (b := 0) (by omega) (by omega) c_105
                  refine lv_iconst (v := 0) hx hb dL_change_506 (by decide) ?_
                  have hv9 : chg N Z v w = (0, N, Z) := by rw [hg]; unfold ch9; rw [if_neg (by first | assumption | omega | exact (fun q9 => by first | omega | exact absurd q9.2 (by assumption) | exact absurd q9.2.1 (by assumption) | exact absurd q9.2.2 (by assumption)))]
                  exact hret _ H _ _ _ _ _ (show some (Value.int 0) = some (Value.int ((chg N Z v w).1)) ∧ wst G T q a (chg N Z v w).2.1 (chg N Z v w).2.2 b tx L cu er le nb nc H from ⟨by rw [hv9], by rw [hv9]; exact wst_id hsc hP⟩) rfl hS (Nat.le_of_ble_eq_true rfl) (Nat.le_of_ble_eq_true rfl) dL_change_507
                · replace c_105 := cn_nle (a := (N 0)) (b := 0) (by omega) (by omega) c_105
                  refine lv_iload hx hb dL_change_452 (lv_at hl 7 rfl) ?_
                  refine lv_if_le (tgt := 506) hx hb dL_change_454 (by decide) (fun c_106 => ?_) (fun c_106 => ?_)
                  · replace c_106 := cn_le (a := (N 1)) (b := 0) (by omega) (by omega) c_106
                    refine lv_iconst (v := 0) hx hb dL_change_506 (by decide) ?_
                    have hv9 : chg N Z v w = (0, N, Z) := by rw [hg]; unfold ch9; rw [if_neg (by first | assumption | omega | exact (fun q9 => by first | omega | exact absurd q9.2 (by assumption) | exact absurd q9.2.1 (by assumption) | exact absurd q9.2.2 (by assumption)))]
                    exact hret _ H _ _ _ _ _ (show some (Value.int 0) = some (Value.int ((chg N Z v w).1)) ∧ wst G T q a (chg N Z v w).2.1 (chg N Z v w).2.2 b tx L cu er le nb nc H from ⟨by rw [hv9], by rw [hv9]; exact wst_id hsc hP⟩) rfl hS (Nat.le_of_ble_eq_true rfl) (Nat.le_of_ble_eq_true rfl) dL_change_507
                  · replace c_106 := cn_nle (a := (N 1)) (b := 0) (by omega) (by omega) c_106
                    refine lv_aload_n hx hb dL_change_457 rfl (lv_at hl 3 rfl) ?_
                    refine lv_iconst (v := 3) hx hb dL_change_458 (by decide) ?_
                    refine rn_V S hkx hth (nX5_value l hl0 (sa := sa) (h9 := (fun q h => hA q (Nat.le_trans hS.1 h))) (hP := hP) (hwf := hwf) (hw := (by omega)) (w := 3)) gL_change_X5_value rfl idX5_value ⟨Nat.le_of_ble_eq_true rfl, Nat.le_of_ble_eq_true rfl⟩ hP 0 rfl rfl rfl rfl hl.1 rfl (Nat.le_of_ble_eq_true rfl) dL_change_459 ⟨Nat.le_of_ble_eq_true rfl, Nat.le_of_ble_eq_true rfl⟩ (fun v9 hv9 => ?_)
                    subst hv9
                    refine W.eq (g2 := F0 m 462 ls [.int (nI (N 3))]) rfl ?_
                    refine lv_bipush (v := 6) hx hb dL_change_462 (by decide) ?_
                    refine lv_icmp_ge (tgt := 506) hx hb dL_change_464 (by decide) (fun c_107 => ?_) (fun c_107 => ?_)
                    · replace c_107 := cn_le (a := 6) (b := (N 3)) (by omega) (by omega) c_107
                      refine lv_iconst (v := 0) hx hb dL_change_506 (by decide) ?_
                      have hv9 : chg N Z v w = (0, N, Z) := by rw [hg]; unfold ch9; rw [if_neg (by first | assumption | omega | exact (fun q9 => by first | omega | exact absurd q9.2 (by assumption) | exact absurd q9.2.1 (by assumption) | exact absurd q9.2.2 (by assumption)))]
                      exact hret _ H _ _ _ _ _ (show some (Value.int 0) = some (Value.int ((chg N Z v w).1)) ∧ wst G T q a (chg N Z v w).2.1 (chg N Z v w).2.2 b tx L cu er le nb nc H from ⟨by rw [hv9], by rw [hv9]; exact wst_id hsc hP⟩) rfl hS (Nat.le_of_ble_eq_true rfl) (Nat.le_of_ble_eq_true rfl) dL_change_507
                    · replace c_107 := cn_nle (a := 6) (b := (N 3)) (by omega) (by omega) c_107
                      refine lv_aload_n hx hb dL_change_467 rfl (lv_at hl 3 rfl) ?_
                      refine lv_iload hx hb dL_change_468 (lv_at hl 2 rfl) ?_
                      refine lv_iload hx hb dL_change_470 (lv_at hl 10 rfl) ?_
                      refine lv_iload hx hb dL_change_472 (lv_at hl 0 rfl) ?_
                      refine lv_iload hx hb dL_change_474 (lv_at hl 0 rfl) ?_
                      refine lv_iload_n hx hb dL_change_476 rfl (lv_at hl 5 rfl) ?_
                      refine lv_bipush (v := 10) hx hb dL_change_477 (by decide) ?_
                      refine lv_ishr hx hb dL_change_479 ?_
                      refine lv_sipush (v := 1000) hx hb dL_change_480 (by decide) ?_
                      refine lv_iload hx hb dL_change_483 (lv_at hl 0 rfl) ?_
                      refine lv_isub hx hb dL_change_485 ?_
                      refine W.eq (g2 := F0 m 486 ls [.int (nI (1000 - (lowN w 600))), .int (w >>> (10 &&& 31)), .int (nI (lowN w 600)), .int (nI (lowN w 600)), .int (nI (chA N v)), .int (nI (chF N v)), .ref (q 0)]) (congrArg (fun z9 => F0 m 486 ls (.int z9 :: [.int (w >>> (10 &&& 31)), .int (nI (lowN w 600)), .int (nI (lowN w 600)), .int (nI (chA N v)), .int (nI (chF N v)), .ref (q 0)])) (pk_sub (a := 1000) (b := (lowN w 600)) (by omega))) ?_
                      refine ro_S S hkx (mL_low l (v := (w >>> (10 &&& 31))) (k := (1000 - (lowN w 600))) (h0 := (by omega)) (hk := (by omega))) gL_change_L_low rfl idL_low.2 ⟨Nat.le_of_ble_eq_true rfl, Nat.le_of_ble_eq_true rfl⟩ rfl hl.1 rfl (Nat.le_of_ble_eq_true rfl) dL_change_486 ⟨Nat.le_of_ble_eq_true rfl, Nat.le_of_ble_eq_true rfl⟩ (fun r9 hr9 => ?_)
                      subst hr9
                      refine W.eq (g2 := F0 m 489 ls [.int (nI (lowN (w >>> (10 &&& 31)) (1000 - (lowN w 600)))), .int (nI (lowN w 600)), .int (nI (lowN w 600)), .int (nI (chA N v)), .int (nI (chF N v)), .ref (q 0)]) rfl ?_
                      refine lv_iadd hx hb dL_change_489 ?_
                      refine W.eq (g2 := F0 m 490 ls [.int (nI ((lowN w 600) + (lowN (w >>> (10 &&& 31)) (1000 - (lowN w 600))))), .int (nI (lowN w 600)), .int (nI (chA N v)), .int (nI (chF N v)), .ref (q 0)]) (congrArg (fun z9 => F0 m 490 ls (.int z9 :: [.int (nI (lowN w 600)), .int (nI (chA N v)), .int (nI (chF N v)), .ref (q 0)])) (nI_add _ _)) ?_
                      refine lv_iconst (v := 1) hx hb dL_change_490 (by decide) ?_
                      refine lv_iload_n hx hb dL_change_491 rfl (lv_at hl 5 rfl) ?_
                      refine lv_iconst (v := 4) hx hb dL_change_492 (by decide) ?_
                      refine lv_ishr hx hb dL_change_493 ?_
                      refine lv_bipush (v := 99) hx hb dL_change_494 (by decide) ?_
                      refine ro_S S hkx (mL_low l (v := (w >>> (4 &&& 31))) (k := 99) (h0 := (by omega)) (hk := (by omega))) gL_change_L_low rfl idL_low.2 ⟨Nat.le_of_ble_eq_true rfl, Nat.le_of_ble_eq_true rfl⟩ rfl hl.1 rfl (Nat.le_of_ble_eq_true rfl) dL_change_496 ⟨Nat.le_of_ble_eq_true rfl, Nat.le_of_ble_eq_true rfl⟩ (fun r9 hr9 => ?_)
                      subst hr9
                      refine W.eq (g2 := F0 m 499 ls [.int (nI (lowN (w >>> (4 &&& 31)) 99)), .int 1, .int (nI ((lowN w 600) + (lowN (w >>> (10 &&& 31)) (1000 - (lowN w 600))))), .int (nI (lowN w 600)), .int (nI (chA N v)), .int (nI (chF N v)), .ref (q 0)]) rfl ?_
                      refine lv_iadd hx hb dL_change_499 ?_
                      refine W.eq (g2 := F0 m 500 ls [.int (nI (1 + (lowN (w >>> (4 &&& 31)) 99))), .int (nI ((lowN w 600) + (lowN (w >>> (10 &&& 31)) (1000 - (lowN w 600))))), .int (nI (lowN w 600)), .int (nI (chA N v)), .int (nI (chF N v)), .ref (q 0)]) (congrArg (fun z9 => F0 m 500 ls (.int z9 :: [.int (nI ((lowN w 600) + (lowN (w >>> (10 &&& 31)) (1000 - (lowN w 600))))), .int (nI (lowN w 600)), .int (nI (chA N v)), .int (nI (chF N v)), .ref (q 0)])) (nI_add 1 _)) ?_
                      refine wn_V S hkx hth (nX5_addShim l hl0 (sa := sa) (A9 := A) (h9 := (fun q h => hA q (Nat.le_trans hS.1 h))) (hP := hP) (hD := hD.weaken (fun _ _ _ _ => trivial)) (hwf := hwf) (hsc := (by omega)) (hf := (chF_lt (by omega))) (hv := (chA_lt (by omega))) (hx := (by omega)) (hz := (by omega)) (hy1 := (by omega)) (hy := (by omega)) (h8 := (by omega)) (f := (chF N v)) (v := (chA N v)) (x := (lowN w 600)) (z := ((lowN w 600) + (lowN (w >>> (10 &&& 31)) (1000 - (lowN w 600))))) (y := (1 + (lowN (w >>> (4 &&& 31)) 99)))) gL_change_X5_addShim rfl idX5_addShim ⟨Nat.le_of_ble_eq_true rfl, Nat.le_of_ble_eq_true rfl⟩ hP 0 rfl rfl rfl rfl hl.1 rfl (Nat.le_of_ble_eq_true rfl) dL_change_500 ⟨Nat.le_of_ble_eq_true rfl, Nat.le_of_ble_eq_true rfl⟩ hS (fr_in hD (fun q h => hA q (Nat.le_trans hS.1 h))) (fun v9 H locs hp9 hz1 hk1 hS => ?_)
                      obtain ⟨rfl, hP⟩ := hp9
                      have hP : va_P G vwCl (wMain T q a (va_up N 3 (N 3 + 1)) (sAdd N Z (nI (chF N v)) (nI (chA N v)) (nI (lowN w 600)) (nI ((lowN w 600) + (lowN (w >>> (10 &&& 31)) (1000 - (lowN w 600))))) (nI (1 + (lowN (w >>> (4 &&& 31)) 99)))) (svB sc b) (psh sc M N) (psh sc Y Z) (svC sc) tx L cu er le nb nc) H := hP
                      have hD : va_D A (wMain T q a (va_up N 3 (N 3 + 1)) (sAdd N Z (nI (chF N v)) (nI (chA N v)) (nI (lowN w 600)) (nI ((lowN w 600) + (lowN (w >>> (10 &&& 31)) (1000 - (lowN w 600))))) (nI (1 + (lowN (w >>> (4 &&& 31)) 99)))) (svB sc b) (psh sc M N) (psh sc Y Z) (svC sc) tx L cu er le nb nc) := D_perm hD sv_addr
                      have hth := hth0.kept hS.2.1
                      refine W.eq (g2 := F0 m 503 ls [.int (nI (N 3))]) rfl ?_
                      refine lv_goto (tgt := 507) hx hb dL_change_503 (by decide) ?_
                      have hv9 : chg N Z v w = ((nI (N 3)), (va_up N 3 (N 3 + 1)), (sAdd N Z (nI (chF N v)) (nI (chA N v)) (nI (lowN w 600)) (nI ((lowN w 600) + (lowN (w >>> (10 &&& 31)) (1000 - (lowN w 600))))) (nI (1 + (lowN (w >>> (4 &&& 31)) 99))))) := by rw [hg]; unfold ch9; rw [if_pos (by first | assumption | omega | exact ⟨by first | assumption | omega, by first | assumption | omega⟩ | exact ⟨by first | assumption | omega, by first | assumption | omega, by first | assumption | omega⟩)]
                      exact hret _ H _ _ _ _ _ (show some (Value.int (nI (N 3))) = some (Value.int ((chg N Z v w).1)) ∧ wst G T q a (chg N Z v w).2.1 (chg N Z v w).2.2 b tx L cu er le nb nc H from ⟨by rw [hv9], by rw [hv9]; exact wst_sv hsc hP⟩) rfl hS (Nat.le_of_ble_eq_true rfl) (Nat.le_of_ble_eq_true rfl) dL_change_507
              · refine lv_tableOut (tgt := 508) hx hb dL_change_92 (Or.inr (by decide)) (by decide) ?_
                have hg : chg N Z v w = chB N Z w := by unfold chg; rw [hcz]; rfl
                refine lv_aload_n hx hb dL_change_508 rfl (lv_at hl 2 rfl) ?_
                refine lv_iconst (v := 3) hx hb dL_change_509 (by decide) ?_
                refine rn_V S hkx hth (nX5_value l hl0 (sa := sa) (h9 := (fun q h => hA q (Nat.le_trans hS.1 h))) (hP := hP) (hwf := hwf) (hw := (by omega)) (w := 3)) gL_change_X5_value rfl idX5_value ⟨Nat.le_of_ble_eq_true rfl, Nat.le_of_ble_eq_true rfl⟩ hP 0 rfl rfl rfl rfl hl.1 rfl (Nat.le_of_ble_eq_true rfl) dL_change_510 ⟨Nat.le_of_ble_eq_true rfl, Nat.le_of_ble_eq_true rfl⟩ (fun v9 hv9 => ?_)
                subst hv9
                refine W.eq (g2 := F0 m 513 ls [.int (nI (N 3))]) rfl ?_
                refine lv_if_le (tgt := 532) hx hb dL_change_513 (by decide) (fun c_108 => ?_) (fun c_108 => ?_)
                · replace c_108 := cn_le (a := (N 3)) (b := 0) (by omega) (by omega) c_108
                  refine lv_iconst (v := 0) hx hb dL_change_532 (by decide) ?_
                  have hv9 : chg N Z v w = (0, N, Z) := by rw [hg]; unfold chB; rw [if_neg (by first | assumption | omega | exact (fun q9 => by first | omega | exact absurd q9.2 (by assumption) | exact absurd q9.2.1 (by assumption) | exact absurd q9.2.2 (by assumption)))]
                  exact hret _ H _ _ _ _ _ (show some (Value.int 0) = some (Value.int ((chg N Z v w).1)) ∧ wst G T q a (chg N Z v w).2.1 (chg N Z v w).2.2 b tx L cu er le nb nc H from ⟨by rw [hv9], by rw [hv9]; exact wst_id hsc hP⟩) rfl hS (Nat.le_of_ble_eq_true rfl) (Nat.le_of_ble_eq_true rfl) dL_change_533
                · replace c_108 := cn_nle (a := (N 3)) (b := 0) (by omega) (by omega) c_108
                  refine lv_aload_n hx hb dL_change_516 rfl (lv_at hl 2 rfl) ?_
                  refine lv_iload_n hx hb dL_change_517 rfl (lv_at hl 4 rfl) ?_
                  refine lv_aload_n hx hb dL_change_518 rfl (lv_at hl 2 rfl) ?_
                  refine lv_iconst (v := 3) hx hb dL_change_519 (by decide) ?_
                  refine rn_V S hkx hth (nX5_value l hl0 (sa := sa) (h9 := (fun q h => hA q (Nat.le_trans hS.1 h))) (hP := hP) (hwf := hwf) (hw := (by omega)) (w := 3)) gL_change_X5_value rfl idX5_value ⟨Nat.le_of_ble_eq_true rfl, Nat.le_of_ble_eq_true rfl⟩ hP 0 rfl rfl rfl rfl hl.1 rfl (Nat.le_of_ble_eq_true rfl) dL_change_520 ⟨Nat.le_of_ble_eq_true rfl, Nat.le_of_ble_eq_true rfl⟩ (fun v9 hv9 => ?_)
                  subst hv9
                  refine W.eq (g2 := F0 m 523 ls [.int (nI (N 3)), .int w, .ref (q 0)]) rfl ?_
                  refine ro_S S hkx (mL_low l (v := w) (k := (N 3)) (h0 := (by omega)) (hk := (by omega))) gL_change_L_low rfl idL_low.2 ⟨Nat.le_of_ble_eq_true rfl, Nat.le_of_ble_eq_true rfl⟩ rfl hl.1 rfl (Nat.le_of_ble_eq_true rfl) dL_change_523 ⟨Nat.le_of_ble_eq_true rfl, Nat.le_of_ble_eq_true rfl⟩ (fun r9 hr9 => ?_)
                  subst hr9
                  refine W.eq (g2 := F0 m 526 ls [.int (nI (lowN w (N 3))), .ref (q 0)]) rfl ?_
                  refine wn_V S hkx hth (nX5_dropShim l hl0 (sa := sa) (A9 := A) (h9 := (fun q h => hA q (Nat.le_trans hS.1 h))) (hP := hP) (hD := hD.weaken (fun _ _ _ _ => trivial)) (hwf := hwf) (hsc := (by omega)) (ht := (lowN_lt w (by omega))) (t := (lowN w (N 3)))) gL_change_X5_dropShim rfl idX5_dropShim ⟨Nat.le_of_ble_eq_true rfl, Nat.le_of_ble_eq_true rfl⟩ hP 0 rfl rfl rfl rfl hl.1 rfl (Nat.le_of_ble_eq_true rfl) dL_change_526 ⟨Nat.le_of_ble_eq_true rfl, Nat.le_of_ble_eq_true rfl⟩ hS (fr_in hD (fun q h => hA q (Nat.le_trans hS.1 h))) (fun v9 H locs hp9 hz1 hk1 hS => ?_)
                  obtain ⟨rfl, hP⟩ := hp9
                  have hP : va_P G vwCl (wMain T q a (va_up N 3 (N 3 - 1)) (sDel Z (lowN w (N 3)) (N 3 - 1)) (svB sc b) (psh sc M N) (psh sc Y Z) (svC sc) tx L cu er le nb nc) H := hP
                  have hD : va_D A (wMain T q a (va_up N 3 (N 3 - 1)) (sDel Z (lowN w (N 3)) (N 3 - 1)) (svB sc b) (psh sc M N) (psh sc Y Z) (svC sc) tx L cu er le nb nc) := D_perm hD sv_addr
                  have hth := hth0.kept hS.2.1
                  refine W.eq (g2 := F0 m 529 ls [.int (nI (N 3 - 1))]) rfl ?_
                  refine lv_goto (tgt := 533) hx hb dL_change_529 (by decide) ?_
                  have hv9 : chg N Z v w = ((nI (N 3 - 1)), (va_up N 3 (N 3 - 1)), (sDel Z (lowN w (N 3)) (N 3 - 1))) := by rw [hg]; unfold chB; rw [if_pos (by first | assumption | omega | exact ⟨by first | assumption | omega, by first | assumption | omega⟩ | exact ⟨by first | assumption | omega, by first | assumption | omega, by first | assumption | omega⟩)]
                  exact hret _ H _ _ _ _ _ (show some (Value.int (nI (N 3 - 1))) = some (Value.int ((chg N Z v w).1)) ∧ wst G T q a (chg N Z v w).2.1 (chg N Z v w).2.2 b tx L cu er le nb nc H from ⟨by rw [hv9], by rw [hv9]; exact wst_sv hsc hP⟩) rfl hS (Nat.le_of_ble_eq_true rfl) (Nat.le_of_ble_eq_true rfl) dL_change_533
            exact L75   _ _ hP hD hS _ (lv_sub hl [1, 2, 3, 4, 5, 6, 7, 0] rfl)
        exact L55   _ _ hP hD hS _ (lv_sub hl [1, 2, 3, 4, 5, 6, 0] rfl)
    exact L37   _ _ hP hD hS _ (lv_sub hl [3, 4, 5, 2, 1, 0] rfl)
  · replace c_1 := cn_eq (a := (N 2)) (b := 0) (by omega) (by omega) c_1
    refine lv_iconst (v := 0) hx hb dL_change_25 (by decide) ?_
    refine lv_goto (tgt := 37) hx hb dL_change_26 (by decide) ?_
    refine W.eq (g2 := F0 m 37 ls [.int (nI (chU N v))]) (congrArg (fun z9 => F0 m 37 ls (.int z9 :: [])) (by unfold chU; rw [if_pos c_1]; rfl)) ?_
    have L37 :  ∀ (H : Heap) (locs : List Loc), va_P G vwCl (wMain T q a N Z b M Y sc tx L cu er le nb nc) H → va_D A (wMain T q a N Z b M Y sc tx L cu er le nb nc) → va_S A H0 H locs → ∀ ls : Array Slot, lv_has ls 11 [(0, .ref (q 0)), (1, .int v), (2, .int w), (3, .int (nI (N 0))), (4, .int (nI (N 1))), (5, .int (nI (N 2)))] → W p l e (rmx 9 180 3) s m ([.ref (q 0), .int v, .int w] : List Value).toArray below meth c H locs 0 0 Q (F0 m 37 ls [.int (nI (chU N v))]) := by
      intro   H locs hP hD hS ls hl
      have hth := hth0.kept hS.2.1
      refine lv_istore (lv' := [(6, .int (nI (chU N v))), (0, .ref (q 0)), (1, .int v), (2, .int w), (3, .int (nI (N 0))), (4, .int (nI (N 1))), (5, .int (nI (N 2)))]) hx hb dL_change_37 hl (by decide) rfl (fun ls hl => ?_)
      refine lv_iload_n hx hb dL_change_39 rfl (lv_at hl 4 rfl) ?_
      refine lv_if_ne (tgt := 47) hx hb dL_change_40 (by decide) (fun c_109 => ?_) (fun c_109 => ?_)
      · replace c_109 := cn_ne (a := (N 0)) (b := 0) (by omega) (by omega) c_109
        refine lv_iload_n hx hb dL_change_47 rfl (lv_at hl 2 rfl) ?_
        refine lv_bipush (v := 9) hx hb dL_change_48 (by decide) ?_
        refine lv_ishr hx hb dL_change_50 ?_
        refine lv_iload_n hx hb dL_change_51 rfl (lv_at hl 4 rfl) ?_
        refine ro_S S hkx (mL_low l (v := (v >>> (9 &&& 31))) (k := (N 0)) (h0 := (by omega)) (hk := (by omega))) gL_change_L_low rfl idL_low.2 ⟨Nat.le_of_ble_eq_true rfl, Nat.le_of_ble_eq_true rfl⟩ rfl hl.1 rfl (Nat.le_of_ble_eq_true rfl) dL_change_52 ⟨Nat.le_of_ble_eq_true rfl, Nat.le_of_ble_eq_true rfl⟩ (fun r9 hr9 => ?_)
        subst hr9
        refine W.eq (g2 := F0 m 55 ls [.int (nI (lowN (v >>> (9 &&& 31)) (N 0)))]) rfl ?_
        refine W.eq (g2 := F0 m 55 ls [.int (nI (chA N v))]) (congrArg (fun z9 => F0 m 55 ls (.int z9 :: [])) (by unfold chA; rw [if_neg c_109])) ?_
        have L55 :  ∀ (H : Heap) (locs : List Loc), va_P G vwCl (wMain T q a N Z b M Y sc tx L cu er le nb nc) H → va_D A (wMain T q a N Z b M Y sc tx L cu er le nb nc) → va_S A H0 H locs → ∀ ls : Array Slot, lv_has ls 11 [(0, .ref (q 0)), (1, .int v), (2, .int w), (3, .int (nI (N 0))), (4, .int (nI (N 1))), (5, .int (nI (N 2))), (6, .int (nI (chU N v)))] → W p l e (rmx 9 180 3) s m ([.ref (q 0), .int v, .int w] : List Value).toArray below meth c H locs 0 0 Q (F0 m 55 ls [.int (nI (chA N v))]) := by
          intro   H locs hP hD hS ls hl
          have hth := hth0.kept hS.2.1
          refine lv_istore (lv' := [(7, .int (nI (chA N v))), (0, .ref (q 0)), (1, .int v), (2, .int w), (3, .int (nI (N 0))), (4, .int (nI (N 1))), (5, .int (nI (N 2))), (6, .int (nI (chU N v)))]) hx hb dL_change_55 hl (by decide) rfl (fun ls hl => ?_)
          refine lv_iload hx hb dL_change_57 (lv_at hl 5 rfl) ?_
          refine lv_if_ne (tgt := 66) hx hb dL_change_59 (by decide) (fun c_110 => ?_) (fun c_110 => ?_)
          · replace c_110 := cn_ne (a := (N 1)) (b := 0) (by omega) (by omega) c_110
            refine lv_iload_n hx hb dL_change_66 rfl (lv_at hl 2 rfl) ?_
            refine lv_bipush (v := 13) hx hb dL_change_67 (by decide) ?_
            refine lv_ishr hx hb dL_change_69 ?_
            refine lv_iload hx hb dL_change_70 (lv_at hl 5 rfl) ?_
            refine ro_S S hkx (mL_low l (v := (v >>> (13 &&& 31))) (k := (N 1)) (h0 := (by omega)) (hk := (by omega))) gL_change_L_low rfl idL_low.2 ⟨Nat.le_of_ble_eq_true rfl, Nat.le_of_ble_eq_true rfl⟩ rfl hl.1 rfl (Nat.le_of_ble_eq_true rfl) dL_change_72 ⟨Nat.le_of_ble_eq_true rfl, Nat.le_of_ble_eq_true rfl⟩ (fun r9 hr9 => ?_)
            subst hr9
            refine W.eq (g2 := F0 m 75 ls [.int (nI (lowN (v >>> (13 &&& 31)) (N 1)))]) rfl ?_
            refine W.eq (g2 := F0 m 75 ls [.int (nI (chF N v))]) (congrArg (fun z9 => F0 m 75 ls (.int z9 :: [])) (by unfold chF; rw [if_neg c_110])) ?_
            have L75 :  ∀ (H : Heap) (locs : List Loc), va_P G vwCl (wMain T q a N Z b M Y sc tx L cu er le nb nc) H → va_D A (wMain T q a N Z b M Y sc tx L cu er le nb nc) → va_S A H0 H locs → ∀ ls : Array Slot, lv_has ls 11 [(0, .ref (q 0)), (1, .int v), (2, .int w), (3, .int (nI (N 0))), (4, .int (nI (N 1))), (5, .int (nI (N 2))), (6, .int (nI (chU N v))), (7, .int (nI (chA N v)))] → W p l e (rmx 9 180 3) s m ([.ref (q 0), .int v, .int w] : List Value).toArray below meth c H locs 0 0 Q (F0 m 75 ls [.int (nI (chF N v))]) := by
              intro   H locs hP hD hS ls hl
              have hth := hth0.kept hS.2.1
              refine lv_istore (lv' := [(8, .int (nI (chF N v))), (0, .ref (q 0)), (1, .int v), (2, .int w), (3, .int (nI (N 0))), (4, .int (nI (N 1))), (5, .int (nI (N 2))), (6, .int (nI (chU N v))), (7, .int (nI (chA N v)))]) hx hb dL_change_75 hl (by decide) rfl (fun ls hl => ?_)
              refine lv_iload_n hx hb dL_change_77 rfl (lv_at hl 3 rfl) ?_
              refine lv_sipush (v := 200) hx hb dL_change_78 (by decide) ?_
              refine ro_S S hkx (mL_low l (v := w) (k := 200) (h0 := (by omega)) (hk := (by omega))) gL_change_L_low rfl idL_low.2 ⟨Nat.le_of_ble_eq_true rfl, Nat.le_of_ble_eq_true rfl⟩ rfl hl.1 rfl (Nat.le_of_ble_eq_true rfl) dL_change_81 ⟨Nat.le_of_ble_eq_true rfl, Nat.le_of_ble_eq_true rfl⟩ (fun r9 hr9 => ?_)
              subst hr9
              refine W.eq (g2 := F0 m 84 ls [.int (nI (lowN w 200))]) rfl ?_
              refine lv_istore (lv' := [(9, .int (nI (lowN w 200))), (8, .int (nI (chF N v))), (0, .ref (q 0)), (1, .int v), (2, .int w), (3, .int (nI (N 0))), (4, .int (nI (N 1))), (5, .int (nI (N 2))), (6, .int (nI (chU N v))), (7, .int (nI (chA N v)))]) hx hb dL_change_84 hl (by decide) rfl (fun ls hl => ?_)
              refine lv_iload_n hx hb dL_change_86 rfl (lv_at hl 3 rfl) ?_
              refine lv_bipush (v := 12) hx hb dL_change_87 (by decide) ?_
              refine ro_S S hkx (mL_low l (v := v) (k := 12) (h0 := (by omega)) (hk := (by omega))) gL_change_L_low rfl idL_low.2 ⟨Nat.le_of_ble_eq_true rfl, Nat.le_of_ble_eq_true rfl⟩ rfl hl.1 rfl (Nat.le_of_ble_eq_true rfl) dL_change_89 ⟨Nat.le_of_ble_eq_true rfl, Nat.le_of_ble_eq_true rfl⟩ (fun r9 hr9 => ?_)
              subst hr9
              refine W.eq (g2 := F0 m 92 ls [.int (nI (lowN v 12))]) rfl ?_
              obtain ⟨cz, hcz⟩ : ∃ cz, lowN v 12 = cz := ⟨_, rfl⟩
              have hcz12 : cz < 12 := hcz ▸ lowN_lt v (by decide)
              refine W.eq (g2 := F0 m 92 ls [.int (nI cz)]) (congrArg (fun z9 => F0 m 92 ls (.int z9 :: [])) (congrArg nI hcz)) ?_
              rcases (show cz = 0 ∨ cz = 1 ∨ cz = 2 ∨ cz = 3 ∨ cz = 4 ∨ cz = 5 ∨ cz = 6 ∨ cz = 7 ∨ cz = 8 ∨ cz = 9 ∨ cz = 10 ∨ cz = 11 by omega) with rfl | rfl | rfl | rfl | rfl | rfl | rfl | rfl | rfl | rfl | rfl | rfl
              · refine lv_tableIn (off := 60) (tgt := 152) hx hb dL_change_92 (by decide) (by decide) rfl (by decide) ?_
                have hg : chg N Z v w = ch0 N Z w := by unfold chg; rw [hcz]; rfl
                refine lv_iload_n hx hb dL_change_152 rfl (lv_at hl 5 rfl) ?_
                refine lv_iconst (v := 5) hx hb dL_change_153 (by decide) ?_
                refine lv_icmp_ge (tgt := 184) hx hb dL_change_154 (by decide) (fun c_111 => ?_) (fun c_111 => ?_)
                · replace c_111 := cn_le (a := 5) (b := (N 0)) (by omega) (by omega) c_111
                  refine lv_aload_n hx hb dL_change_184 rfl (lv_at hl 2 rfl) ?_
                  refine lv_iconst (v := 4) hx hb dL_change_185 (by decide) ?_
                  refine rn_V S hkx hth (nX5_value l hl0 (sa := sa) (h9 := (fun q h => hA q (Nat.le_trans hS.1 h))) (hP := hP) (hwf := hwf) (hw := (by omega)) (w := 4)) gL_change_X5_value rfl idX5_value ⟨Nat.le_of_ble_eq_true rfl, Nat.le_of_ble_eq_true rfl⟩ hP 0 rfl rfl rfl rfl hl.1 rfl (Nat.le_of_ble_eq_true rfl) dL_change_186 ⟨Nat.le_of_ble_eq_true rfl, Nat.le_of_ble_eq_true rfl⟩ (fun v9 hv9 => ?_)
                  subst hv9
                  refine W.eq (g2 := F0 m 189 ls [.int (plC Z (N 2))]) rfl ?_
                  have hv9 : chg N Z v w = ((plC Z (N 2)), N, Z) := by rw [hg]; unfold ch0; rw [if_neg (by first | assumption | omega | exact (fun q9 => by first | omega | exact absurd q9.2 (by assumption) | exact absurd q9.2.1 (by assumption) | exact absurd q9.2.2 (by assumption)))]
                  exact hret _ H _ _ _ _ _ (show some (Value.int (plC Z (N 2))) = some (Value.int ((chg N Z v w).1)) ∧ wst G T q a (chg N Z v w).2.1 (chg N Z v w).2.2 b tx L cu er le nb nc H from ⟨by rw [hv9], by rw [hv9]; exact wst_id hsc hP⟩) rfl hS (Nat.le_of_ble_eq_true rfl) (Nat.le_of_ble_eq_true rfl) dL_change_189
                · replace c_111 := cn_nle (a := 5) (b := (N 0)) (by omega) (by omega) c_111
                  refine lv_aload_n hx hb dL_change_157 rfl (lv_at hl 2 rfl) ?_
                  refine lv_iload hx hb dL_change_158 (lv_at hl 0 rfl) ?_
                  refine lv_iload hx hb dL_change_160 (lv_at hl 0 rfl) ?_
                  refine lv_iconst (v := 1) hx hb dL_change_162 (by decide) ?_
                  refine lv_iadd hx hb dL_change_163 ?_
                  refine W.eq (g2 := F0 m 164 ls [.int (nI ((lowN w 200) + 1)), .int (nI (lowN w 200)), .ref (q 0)]) (congrArg (fun z9 => F0 m 164 ls (.int z9 :: [.int (nI (lowN w 200)), .ref (q 0)])) (nI_add _ 1)) ?_
                  refine lv_iload_n hx hb dL_change_164 rfl (lv_at hl 4 rfl) ?_
                  refine lv_bipush (v := 8) hx hb dL_change_165 (by decide) ?_
                  refine lv_ishr hx hb dL_change_167 ?_
                  refine lv_sipush (v := 1000) hx hb dL_change_168 (by decide) ?_
                  refine lv_iload hx hb dL_change_171 (lv_at hl 0 rfl) ?_
                  refine lv_isub hx hb dL_change_173 ?_
                  refine W.eq (g2 := F0 m 174 ls [.int (nI (1000 - (lowN w 200))), .int (w >>> (8 &&& 31)), .int (nI ((lowN w 200) + 1)), .int (nI (lowN w 200)), .ref (q 0)]) (congrArg (fun z9 => F0 m 174 ls (.int z9 :: [.int (w >>> (8 &&& 31)), .int (nI ((lowN w 200) + 1)), .int (nI (lowN w 200)), .ref (q 0)])) (pk_sub (a := 1000) (b := (lowN w 200)) (by omega))) ?_
                  refine ro_S S hkx (mL_low l (v := (w >>> (8 &&& 31))) (k := (1000 - (lowN w 200))) (h0 := (by omega)) (hk := (by omega))) gL_change_L_low rfl idL_low.2 ⟨Nat.le_of_ble_eq_true rfl, Nat.le_of_ble_eq_true rfl⟩ rfl hl.1 rfl (Nat.le_of_ble_eq_true rfl) dL_change_174 ⟨Nat.le_of_ble_eq_true rfl, Nat.le_of_ble_eq_true rfl⟩ (fun r9 hr9 => ?_)
                  subst hr9
                  refine W.eq (g2 := F0 m 177 ls [.int (nI (lowN (w >>> (8 &&& 31)) (1000 - (lowN w 200)))), .int (nI ((lowN w 200) + 1)), .int (nI (lowN w 200)), .ref (q 0)]) rfl ?_
                  refine lv_iadd hx hb dL_change_177 ?_
                  refine W.eq (g2 := F0 m 178 ls [.int (nI (((lowN w 200) + 1) + (lowN (w >>> (8 &&& 31)) (1000 - (lowN w 200))))), .int (nI (lowN w 200)), .ref (q 0)]) (congrArg (fun z9 => F0 m 178 ls (.int z9 :: [.int (nI (lowN w 200)), .ref (q 0)])) (nI_add _ _)) ?_
                  refine wn_V S hkx hth (nX5_addVersion l hl0 (sa := sa) (A9 := A) (h9 := (fun q h => hA q (Nat.le_trans hS.1 h))) (hP := hP) (hD := hD.weaken (fun _ _ _ _ => trivial)) (hwf := hwf) (hsc := (by omega)) (hx := (by omega)) (hz1 := (by omega)) (hz := (by omega)) (h8 := (by omega)) (x := (lowN w 200)) (z := (((lowN w 200) + 1) + (lowN (w >>> (8 &&& 31)) (1000 - (lowN w 200)))))) gL_change_X5_addVersion rfl idX5_addVersion ⟨Nat.le_of_ble_eq_true rfl, Nat.le_of_ble_eq_true rfl⟩ hP 0 rfl rfl rfl rfl hl.1 rfl (Nat.le_of_ble_eq_true rfl) dL_change_178 ⟨Nat.le_of_ble_eq_true rfl, Nat.le_of_ble_eq_true rfl⟩ hS (fr_in hD (fun q h => hA q (Nat.le_trans hS.1 h))) (fun v9 H locs hp9 hz1 hk1 hS => ?_)
                  obtain ⟨rfl, hP⟩ := hp9
                  have hP : va_P G vwCl (wMain T q a (va_up N 0 (N 0 + 1)) (vAdd N Z (nI (lowN w 200)) (nI (((lowN w 200) + 1) + (lowN (w >>> (8 &&& 31)) (1000 - (lowN w 200)))))) (svB sc b) (psh sc M N) (psh sc Y Z) (svC sc) tx L cu er le nb nc) H := hP
                  have hD : va_D A (wMain T q a (va_up N 0 (N 0 + 1)) (vAdd N Z (nI (lowN w 200)) (nI (((lowN w 200) + 1) + (lowN (w >>> (8 &&& 31)) (1000 - (lowN w 200)))))) (svB sc b) (psh sc M N) (psh sc Y Z) (svC sc) tx L cu er le nb nc) := D_perm hD sv_addr
                  have hth := hth0.kept hS.2.1
                  refine W.eq (g2 := F0 m 181 ls [.int (nI (N 0))]) rfl ?_
                  refine lv_goto (tgt := 189) hx hb dL_change_181 (by decide) ?_
                  have hv9 : chg N Z v w = ((nI (N 0)), (va_up N 0 (N 0 + 1)), (vAdd N Z (nI (lowN w 200)) (nI (((lowN w 200) + 1) + (lowN (w >>> (8 &&& 31)) (1000 - (lowN w 200))))))) := by rw [hg]; unfold ch0; rw [if_pos (by first | assumption | omega | exact ⟨by first | assumption | omega, by first | assumption | omega⟩ | exact ⟨by first | assumption | omega, by first | assumption | omega, by first | assumption | omega⟩)]
                  exact hret _ H _ _ _ _ _ (show some (Value.int (nI (N 0))) = some (Value.int ((chg N Z v w).1)) ∧ wst G T q a (chg N Z v w).2.1 (chg N Z v w).2.2 b tx L cu er le nb nc H from ⟨by rw [hv9], by rw [hv9]; exact wst_sv hsc hP⟩) rfl hS (Nat.le_of_ble_eq_true rfl) (Nat.le_of_ble_eq_true rfl) dL_change_189
              · refine lv_tableIn (off := 98) (tgt := 190) hx hb dL_change_92 (by decide) (by decide) rfl (by decide) ?_
                have hg : chg N Z v w = ch1 N Z w := by unfold chg; rw [hcz]; rfl
                refine lv_iload_n hx hb dL_change_190 rfl (lv_at hl 5 rfl) ?_
                refine lv_if_le (tgt := 215) hx hb dL_change_191 (by decide) (fun c_112 => ?_) (fun c_112 => ?_)
                · replace c_112 := cn_le (a := (N 0)) (b := 0) (by omega) (by omega) c_112
                  refine lv_iload_n hx hb dL_change_215 rfl (lv_at hl 5 rfl) ?_
                  refine lv_if_ne (tgt := 230) hx hb dL_change_216 (by decide) (fun c_113 => ?_) (fun c_113 => ?_)
                  · exact absurd (show nI (N 0) = 0 by rw [show N 0 = 0 by omega]; rfl) c_113
                  · replace c_113 := cn_eq (a := (N 0)) (b := 0) (by omega) (by omega) c_113
                    refine lv_aload_n hx hb dL_change_219 rfl (lv_at hl 2 rfl) ?_
                    refine lv_iconst (v := 0) hx hb dL_change_220 (by decide) ?_
                    refine lv_sipush (v := 700) hx hb dL_change_221 (by decide) ?_
                    refine wn_V S hkx hth (nX5_addVersion l hl0 (sa := sa) (A9 := A) (h9 := (fun q h => hA q (Nat.le_trans hS.1 h))) (hP := hP) (hD := hD.weaken (fun _ _ _ _ => trivial)) (hwf := hwf) (hsc := (by omega)) (hx := (by omega)) (hz1 := (by omega)) (hz := (by omega)) (h8 := (by omega)) (x := 0) (z := 700)) gL_change_X5_addVersion rfl idX5_addVersion ⟨Nat.le_of_ble_eq_true rfl, Nat.le_of_ble_eq_true rfl⟩ hP 0 rfl rfl rfl rfl hl.1 rfl (Nat.le_of_ble_eq_true rfl) dL_change_224 ⟨Nat.le_of_ble_eq_true rfl, Nat.le_of_ble_eq_true rfl⟩ hS (fr_in hD (fun q h => hA q (Nat.le_trans hS.1 h))) (fun v9 H locs hp9 hz1 hk1 hS => ?_)
                    obtain ⟨rfl, hP⟩ := hp9
                    have hP : va_P G vwCl (wMain T q a (va_up N 0 (N 0 + 1)) (vAdd N Z (nI 0) (nI 700)) (svB sc b) (psh sc M N) (psh sc Y Z) (svC sc) tx L cu er le nb nc) H := hP
                    have hD : va_D A (wMain T q a (va_up N 0 (N 0 + 1)) (vAdd N Z (nI 0) (nI 700)) (svB sc b) (psh sc M N) (psh sc Y Z) (svC sc) tx L cu er le nb nc) := D_perm hD sv_addr
                    have hth := hth0.kept hS.2.1
                    refine W.eq (g2 := F0 m 227 ls [.int (nI (N 0))]) rfl ?_
                    refine lv_goto (tgt := 231) hx hb dL_change_227 (by decide) ?_
                    have hv9 : chg N Z v w = ((nI (N 0)), (va_up N 0 (N 0 + 1)), (vAdd N Z (nI 0) (nI 700))) := by rw [hg]; unfold ch1; rw [if_neg (by first | assumption | omega | exact (fun q9 => by first | omega | exact absurd q9.2 (by assumption) | exact absurd q9.2.1 (by assumption) | exact absurd q9.2.2 (by assumption)))]; rw [if_pos (by first | assumption | omega | exact ⟨by first | assumption | omega, by first | assumption | omega⟩ | exact ⟨by first | assumption | omega, by first | assumption | omega, by first | assumption | omega⟩)]
                    exact hret _ H _ _ _ _ _ (show some (Value.int (nI (N 0))) = some (Value.int ((chg N Z v w).1)) ∧ wst G T q a (chg N Z v w).2.1 (chg N Z v w).2.2 b tx L cu er le nb nc H from ⟨by rw [hv9], by rw [hv9]; exact wst_sv hsc hP⟩) rfl hS (Nat.le_of_ble_eq_true rfl) (Nat.le_of_ble_eq_true rfl) dL_change_231
                · replace c_112 := cn_nle (a := (N 0)) (b := 0) (by omega) (by omega) c_112
                  refine lv_iload hx hb dL_change_194 (lv_at hl 6 rfl) ?_
                  refine lv_bipush (v := 6) hx hb dL_change_196 (by decide) ?_
                  refine lv_icmp_ge (tgt := 215) hx hb dL_change_198 (by decide) (fun c_114 => ?_) (fun c_114 => ?_)
                  · replace c_114 := cn_le (a := 6) (b := (N 1)) (by omega) (by omega) c_114
                    refine lv_iload_n hx hb dL_change_215 rfl (lv_at hl 5 rfl) ?_
                    refine lv_if_ne (tgt := 230) hx hb dL_change_216 (by decide) (fun c_115 => ?_) (fun c_115 => ?_)
                    · replace c_115 := cn_ne (a := (N 0)) (b := 0) (by omega) (by omega) c_115
                      refine lv_iconst (v := 0) hx hb dL_change_230 (by decide) ?_
                      have hv9 : chg N Z v w = (0, N, Z) := by rw [hg]; unfold ch1; rw [if_neg (by first | assumption | omega | exact (fun q9 => by first | omega | exact absurd q9.2 (by assumption) | exact absurd q9.2.1 (by assumption) | exact absurd q9.2.2 (by assumption)))]; rw [if_neg (by first | assumption | omega | exact (fun q9 => by first | omega | exact absurd q9.2 (by assumption) | exact absurd q9.2.1 (by assumption) | exact absurd q9.2.2 (by assumption)))]
                      exact hret _ H _ _ _ _ _ (show some (Value.int 0) = some (Value.int ((chg N Z v w).1)) ∧ wst G T q a (chg N Z v w).2.1 (chg N Z v w).2.2 b tx L cu er le nb nc H from ⟨by rw [hv9], by rw [hv9]; exact wst_id hsc hP⟩) rfl hS (Nat.le_of_ble_eq_true rfl) (Nat.le_of_ble_eq_true rfl) dL_change_231
                    · exfalso; replace c_115 := cn_eq (a := N 0) (b := 0) (by omega) (by omega) c_115; omega
                  · replace c_114 := cn_nle (a := 6) (b := (N 1)) (by omega) (by omega) c_114
                    refine lv_aload_n hx hb dL_change_201 rfl (lv_at hl 2 rfl) ?_
                    refine lv_iload_n hx hb dL_change_202 rfl (lv_at hl 4 rfl) ?_
                    refine lv_iconst (v := 1) hx hb dL_change_203 (by decide) ?_
                    refine lv_iload_n hx hb dL_change_204 rfl (lv_at hl 5 rfl) ?_
                    refine lv_ishl hx hb dL_change_205 ?_
                    refine W.eq (g2 := F0 m 206 ls [.int (nI (2 ^ N 0)), .int w, .ref (q 0)]) (congrArg (fun z9 => F0 m 206 ls (.int z9 :: [.int w, .ref (q 0)])) (sh_1 (N 0) (by omega))) ?_
                    refine ro_S S hkx (mL_low l (v := w) (k := (2 ^ N 0)) (h0 := (Nat.pow_pos (by decide))) (hk := (Nat.pow_lt_pow_right (by decide) (by omega)))) gL_change_L_low rfl idL_low.2 ⟨Nat.le_of_ble_eq_true rfl, Nat.le_of_ble_eq_true rfl⟩ rfl hl.1 rfl (Nat.le_of_ble_eq_true rfl) dL_change_206 ⟨Nat.le_of_ble_eq_true rfl, Nat.le_of_ble_eq_true rfl⟩ (fun r9 hr9 => ?_)
                    subst hr9
                    refine W.eq (g2 := F0 m 209 ls [.int (nI (lowN w (2 ^ N 0))), .ref (q 0)]) rfl ?_
                    refine wn_V S hkx hth (nX5_addFeature l hl0 (sa := sa) (A9 := A) (h9 := (fun q h => hA q (Nat.le_trans hS.1 h))) (hP := hP) (hD := hD.weaken (fun _ _ _ _ => trivial)) (hwf := hwf) (hsc := (by omega)) (hx := (lowN_lt _ (Nat.pow_pos (by decide)))) (h8 := (by omega)) (x := (lowN w (2 ^ N 0)))) gL_change_X5_addFeature rfl idX5_addFeature ⟨Nat.le_of_ble_eq_true rfl, Nat.le_of_ble_eq_true rfl⟩ hP 0 rfl rfl rfl rfl hl.1 rfl (Nat.le_of_ble_eq_true rfl) dL_change_209 ⟨Nat.le_of_ble_eq_true rfl, Nat.le_of_ble_eq_true rfl⟩ hS (fr_in hD (fun q h => hA q (Nat.le_trans hS.1 h))) (fun v9 H locs hp9 hz1 hk1 hS => ?_)
                    obtain ⟨rfl, hP⟩ := hp9
                    have hP : va_P G vwCl (wMain T q a (va_up N 1 (N 1 + 1)) (va_up Z 4 (apF (Z 4) (nI (lowN w (2 ^ N 0))) (N 1) (N 0))) (svB sc b) (psh sc M N) (psh sc Y Z) (svC sc) tx L cu er le nb nc) H := hP
                    have hD : va_D A (wMain T q a (va_up N 1 (N 1 + 1)) (va_up Z 4 (apF (Z 4) (nI (lowN w (2 ^ N 0))) (N 1) (N 0))) (svB sc b) (psh sc M N) (psh sc Y Z) (svC sc) tx L cu er le nb nc) := D_perm hD sv_addr
                    have hth := hth0.kept hS.2.1
                    refine W.eq (g2 := F0 m 212 ls [.int (nI (N 1))]) rfl ?_
                    refine lv_goto (tgt := 231) hx hb dL_change_212 (by decide) ?_
                    have hv9 : chg N Z v w = ((nI (N 1)), (va_up N 1 (N 1 + 1)), (va_up Z 4 (apF (Z 4) (nI (lowN w (2 ^ N 0))) (N 1) (N 0)))) := by rw [hg]; unfold ch1; rw [if_pos (by first | assumption | omega | exact ⟨by first | assumption | omega, by first | assumption | omega⟩ | exact ⟨by first | assumption | omega, by first | assumption | omega, by first | assumption | omega⟩)]
                    exact hret _ H _ _ _ _ _ (show some (Value.int (nI (N 1))) = some (Value.int ((chg N Z v w).1)) ∧ wst G T q a (chg N Z v w).2.1 (chg N Z v w).2.2 b tx L cu er le nb nc H from ⟨by rw [hv9], by rw [hv9]; exact wst_sv hsc hP⟩) rfl hS (Nat.le_of_ble_eq_true rfl) (Nat.le_of_ble_eq_true rfl) dL_change_231
              · refine lv_tableIn (off := 140) (tgt := 232) hx hb dL_change_92 (by decide) (by decide) rfl (by decide) ?_
                have hg : chg N Z v w = ch2 N Z v := by unfold chg; rw [hcz]; rfl
                refine lv_iload_n hx hb dL_change_232 rfl (lv_at hl 5 rfl) ?_
                refine lv_if_le (tgt := 272) hx hb dL_change_233 (by decide) (fun c_116 => ?_) (fun c_116 => ?_)
                · replace c_116 := cn_le (a := (N 0)) (b := 0) (by omega) (by omega) c_116
                  refine lv_iconst (v := 0) hx hb dL_change_272 (by decide) ?_
                  have hv9 : chg N Z v w = (0, N, Z) := by rw [hg]; unfold ch2; rw [if_neg (by first | assumption | omega | exact (fun q9 => by first | omega | exact absurd q9.2 (by assumption) | exact absurd q9.2.1 (by assumption) | exact absurd q9.2.2 (by assumption)))]
                  exact hret _ H _ _ _ _ _ (show some (Value.int 0) = some (Value.int ((chg N Z v w).1)) ∧ wst G T q a (chg N Z v w).2.1 (chg N Z v w).2.2 b tx L cu er le nb nc H from ⟨by rw [hv9], by rw [hv9]; exact wst_id hsc hP⟩) rfl hS (Nat.le_of_ble_eq_true rfl) (Nat.le_of_ble_eq_true rfl) dL_change_273
                · replace c_116 := cn_nle (a := (N 0)) (b := 0) (by omega) (by omega) c_116
                  refine lv_iload hx hb dL_change_236 (lv_at hl 6 rfl) ?_
                  refine lv_if_le (tgt := 272) hx hb dL_change_238 (by decide) (fun c_117 => ?_) (fun c_117 => ?_)
                  · replace c_117 := cn_le (a := (N 1)) (b := 0) (by omega) (by omega) c_117
                    refine lv_iconst (v := 0) hx hb dL_change_272 (by decide) ?_
                    have hv9 : chg N Z v w = (0, N, Z) := by rw [hg]; unfold ch2; rw [if_neg (by first | assumption | omega | exact (fun q9 => by first | omega | exact absurd q9.2 (by assumption) | exact absurd q9.2.1 (by assumption) | exact absurd q9.2.2 (by assumption)))]
                    exact hret _ H _ _ _ _ _ (show some (Value.int 0) = some (Value.int ((chg N Z v w).1)) ∧ wst G T q a (chg N Z v w).2.1 (chg N Z v w).2.2 b tx L cu er le nb nc H from ⟨by rw [hv9], by rw [hv9]; exact wst_id hsc hP⟩) rfl hS (Nat.le_of_ble_eq_true rfl) (Nat.le_of_ble_eq_true rfl) dL_change_273
                  · replace c_117 := cn_nle (a := (N 1)) (b := 0) (by omega) (by omega) c_117
                    refine lv_aload_n hx hb dL_change_241 rfl (lv_at hl 2 rfl) ?_
                    refine lv_iload hx hb dL_change_242 (lv_at hl 1 rfl) ?_
                    refine lv_iload hx hb dL_change_244 (lv_at hl 9 rfl) ?_
                    refine lv_aload_n hx hb dL_change_246 rfl (lv_at hl 2 rfl) ?_
                    refine lv_iload hx hb dL_change_247 (lv_at hl 9 rfl) ?_
                    refine lv_iconst (v := 2) hx hb dL_change_249 (by decide) ?_
                    refine rn_V S hkx hth (nX5_version l hl0 (sa := sa) (h9 := (fun q h => hA q (Nat.le_trans hS.1 h))) (hP := hP) (hwf := hwf) (hv := (chA_lt (by omega))) (hw := (by omega)) (v := (chA N v)) (w := 2)) gL_change_X5_version rfl idX5_version ⟨Nat.le_of_ble_eq_true rfl, Nat.le_of_ble_eq_true rfl⟩ hP 0 rfl rfl rfl rfl hl.1 rfl (Nat.le_of_ble_eq_true rfl) dL_change_250 ⟨Nat.le_of_ble_eq_true rfl, Nat.le_of_ble_eq_true rfl⟩ (fun v9 hv9 => ?_)
                    subst hv9
                    refine W.eq (g2 := F0 m 253 ls [.int (Z 4 (chA N v)), .int (nI (chA N v)), .int (nI (chF N v)), .ref (q 0)]) rfl ?_
                    refine lv_iload hx hb dL_change_253 (lv_at hl 1 rfl) ?_
                    refine lv_ishr hx hb dL_change_255 ?_
                    refine lv_iconst (v := 1) hx hb dL_change_256 (by decide) ?_
                    refine lv_iand hx hb dL_change_257 ?_
                    refine W.eq (g2 := F0 m 258 ls [.int (bI (cnt1 (Z 4 (chA N v)) (nI (chF N v)))), .int (nI (chA N v)), .int (nI (chF N v)), .ref (q 0)]) (congrArg (fun z9 => F0 m 258 ls (.int z9 :: [.int (nI (chA N v)), .int (nI (chF N v)), .ref (q 0)])) (and_cn (Nat.lt_of_lt_of_le (chF_lt (by omega)) (by omega)))) ?_
                    refine lv_if_ne (tgt := 265) hx hb dL_change_258 (by decide) (fun c_118 => ?_) (fun c_118 => ?_)
                    · replace c_118 := bI_n0 c_118
                      refine lv_iconst (v := 0) hx hb dL_change_265 (by decide) ?_
                      refine W.eq (g2 := F0 m 266 ls [.int (bI false), .int (nI (chA N v)), .int (nI (chF N v)), .ref (q 0)]) (congrArg (fun z9 => F0 m 266 ls (.int z9 :: [.int (nI (chA N v)), .int (nI (chF N v)), .ref (q 0)])) (rfl)) ?_
                      refine wn_V S hkx hth (nX5_put l hl0 (sa := sa) (A9 := A) (h9 := (fun q h => hA q (Nat.le_trans hS.1 h))) (hP := hP) (hD := hD.weaken (fun _ _ _ _ => trivial)) (hwf := hwf) (hsc := (by omega)) (hf := (chF_lt (by omega))) (hv := (chA_lt (by omega))) (h8 := (by first | (rw [show cnt1 (Z 4 (chA N v)) (nI (chF N v)) = true by assumption]; decide) | (rw [show cnt1 (Z 4 (chA N v)) (nI (chF N v)) = false by assumption]; decide))) (f := (chF N v)) (v := (chA N v)) (h := false)) gL_change_X5_put rfl idX5_put ⟨Nat.le_of_ble_eq_true rfl, Nat.le_of_ble_eq_true rfl⟩ hP 0 rfl rfl rfl rfl hl.1 rfl (Nat.le_of_ble_eq_true rfl) dL_change_266 ⟨Nat.le_of_ble_eq_true rfl, Nat.le_of_ble_eq_true rfl⟩ hS (fr_in hD (fun q h => hA q (Nat.le_trans hS.1 h))) (fun v9 H locs hp9 hz1 hk1 hS => ?_)
                      obtain ⟨rfl, hP⟩ := hp9
                      have hP : va_P G vwCl (wMain T q a N (va_up Z 4 (upd (Z 4) (chA N v) (Z 4 (chA N v) ^^^ ((1 : Int32) <<< (nI (chF N v) &&& 31))))) (svB sc b) (psh sc M N) (psh sc Y Z) (svC sc) tx L cu er le nb nc) H := hP
                      have hD : va_D A (wMain T q a N (va_up Z 4 (upd (Z 4) (chA N v) (Z 4 (chA N v) ^^^ ((1 : Int32) <<< (nI (chF N v) &&& 31))))) (svB sc b) (psh sc M N) (psh sc Y Z) (svC sc) tx L cu er le nb nc) := D_perm hD sv_addr
                      have hth := hth0.kept hS.2.1
                      refine W.eq (g2 := F0 m 269 ls [.int (allW (va_up Z 4 (upd (Z 4) (chA N v) (Z 4 (chA N v) ^^^ ((1 : Int32) <<< (nI (chF N v) &&& 31))))) (nI (chF N v)) (N 0))]) rfl ?_
                      refine lv_goto (tgt := 273) hx hb dL_change_269 (by decide) ?_
                      have hv9 : chg N Z v w = ((allW (va_up Z 4 (upd (Z 4) (chA N v) (Z 4 (chA N v) ^^^ ((1 : Int32) <<< (nI (chF N v) &&& 31))))) (nI (chF N v)) (N 0)), N, (va_up Z 4 (upd (Z 4) (chA N v) (Z 4 (chA N v) ^^^ ((1 : Int32) <<< (nI (chF N v) &&& 31)))))) := by rw [hg]; unfold ch2; rw [if_pos (by first | assumption | omega | exact ⟨by first | assumption | omega, by first | assumption | omega⟩ | exact ⟨by first | assumption | omega, by first | assumption | omega, by first | assumption | omega⟩)]
                      exact hret _ H _ _ _ _ _ (show some (Value.int (allW (va_up Z 4 (upd (Z 4) (chA N v) (Z 4 (chA N v) ^^^ ((1 : Int32) <<< (nI (chF N v) &&& 31))))) (nI (chF N v)) (N 0))) = some (Value.int ((chg N Z v w).1)) ∧ wst G T q a (chg N Z v w).2.1 (chg N Z v w).2.2 b tx L cu er le nb nc H from ⟨by rw [hv9], by rw [hv9]; exact wst_sv hsc hP⟩) rfl hS (Nat.le_of_ble_eq_true rfl) (Nat.le_of_ble_eq_true rfl) dL_change_273
                    · replace c_118 := bI_e0 c_118
                      refine lv_iconst (v := 1) hx hb dL_change_261 (by decide) ?_
                      refine lv_goto (tgt := 266) hx hb dL_change_262 (by decide) ?_
                      refine W.eq (g2 := F0 m 266 ls [.int (bI true), .int (nI (chA N v)), .int (nI (chF N v)), .ref (q 0)]) (congrArg (fun z9 => F0 m 266 ls (.int z9 :: [.int (nI (chA N v)), .int (nI (chF N v)), .ref (q 0)])) (rfl)) ?_
                      refine wn_V S hkx hth (nX5_put l hl0 (sa := sa) (A9 := A) (h9 := (fun q h => hA q (Nat.le_trans hS.1 h))) (hP := hP) (hD := hD.weaken (fun _ _ _ _ => trivial)) (hwf := hwf) (hsc := (by omega)) (hf := (chF_lt (by omega))) (hv := (chA_lt (by omega))) (h8 := (by first | (rw [show cnt1 (Z 4 (chA N v)) (nI (chF N v)) = true by assumption]; decide) | (rw [show cnt1 (Z 4 (chA N v)) (nI (chF N v)) = false by assumption]; decide))) (f := (chF N v)) (v := (chA N v)) (h := true)) gL_change_X5_put rfl idX5_put ⟨Nat.le_of_ble_eq_true rfl, Nat.le_of_ble_eq_true rfl⟩ hP 0 rfl rfl rfl rfl hl.1 rfl (Nat.le_of_ble_eq_true rfl) dL_change_266 ⟨Nat.le_of_ble_eq_true rfl, Nat.le_of_ble_eq_true rfl⟩ hS (fr_in hD (fun q h => hA q (Nat.le_trans hS.1 h))) (fun v9 H locs hp9 hz1 hk1 hS => ?_)
                      obtain ⟨rfl, hP⟩ := hp9
                      have hP : va_P G vwCl (wMain T q a N (va_up Z 4 (upd (Z 4) (chA N v) (Z 4 (chA N v) ^^^ ((1 : Int32) <<< (nI (chF N v) &&& 31))))) (svB sc b) (psh sc M N) (psh sc Y Z) (svC sc) tx L cu er le nb nc) H := hP
                      have hD : va_D A (wMain T q a N (va_up Z 4 (upd (Z 4) (chA N v) (Z 4 (chA N v) ^^^ ((1 : Int32) <<< (nI (chF N v) &&& 31))))) (svB sc b) (psh sc M N) (psh sc Y Z) (svC sc) tx L cu er le nb nc) := D_perm hD sv_addr
                      have hth := hth0.kept hS.2.1
                      refine W.eq (g2 := F0 m 269 ls [.int (allW (va_up Z 4 (upd (Z 4) (chA N v) (Z 4 (chA N v) ^^^ ((1 : Int32) <<< (nI (chF N v) &&& 31))))) (nI (chF N v)) (N 0))]) rfl ?_
                      refine lv_goto (tgt := 273) hx hb dL_change_269 (by decide) ?_
                      have hv9 : chg N Z v w = ((allW (va_up Z 4 (upd (Z 4) (chA N v) (Z 4 (chA N v) ^^^ ((1 : Int32) <<< (nI (chF N v) &&& 31))))) (nI (chF N v)) (N 0)), N, (va_up Z 4 (upd (Z 4) (chA N v) (Z 4 (chA N v) ^^^ ((1 : Int32) <<< (nI (chF N v) &&& 31)))))) := by rw [hg]; unfold ch2; rw [if_pos (by first | assumption | omega | exact ⟨by first | assumption | omega, by first | assumption | omega⟩ | exact ⟨by first | assumption | omega, by first | assumption | omega, by first | assumption | omega⟩)]
                      exact hret _ H _ _ _ _ _ (show some (Value.int (allW (va_up Z 4 (upd (Z 4) (chA N v) (Z 4 (chA N v) ^^^ ((1 : Int32) <<< (nI (chF N v) &&& 31))))) (nI (chF N v)) (N 0))) = some (Value.int ((chg N Z v w).1)) ∧ wst G T q a (chg N Z v w).2.1 (chg N Z v w).2.2 b tx L cu er le nb nc H from ⟨by rw [hv9], by rw [hv9]; exact wst_sv hsc hP⟩) rfl hS (Nat.le_of_ble_eq_true rfl) (Nat.le_of_ble_eq_true rfl) dL_change_273
              · refine lv_tableIn (off := 182) (tgt := 274) hx hb dL_change_92 (by decide) (by decide) rfl (by decide) ?_
                have hg : chg N Z v w = ch3 N Z v w := by unfold chg; rw [hcz]; rfl
                refine lv_iload_n hx hb dL_change_274 rfl (lv_at hl 5 rfl) ?_
                refine lv_if_le (tgt := 303) hx hb dL_change_275 (by decide) (fun c_119 => ?_) (fun c_119 => ?_)
                · replace c_119 := cn_le (a := (N 0)) (b := 0) (by omega) (by omega) c_119
                  refine lv_iconst (v := 0) hx hb dL_change_303 (by decide) ?_
                  have hv9 : chg N Z v w = (0, N, Z) := by rw [hg]; unfold ch3; rw [if_neg (by first | assumption | omega | exact (fun q9 => by first | omega | exact absurd q9.2 (by assumption) | exact absurd q9.2.1 (by assumption) | exact absurd q9.2.2 (by assumption)))]
                  exact hret _ H _ _ _ _ _ (show some (Value.int 0) = some (Value.int ((chg N Z v w).1)) ∧ wst G T q a (chg N Z v w).2.1 (chg N Z v w).2.2 b tx L cu er le nb nc H from ⟨by rw [hv9], by rw [hv9]; exact wst_id hsc hP⟩) rfl hS (Nat.le_of_ble_eq_true rfl) (Nat.le_of_ble_eq_true rfl) dL_change_304
                · replace c_119 := cn_nle (a := (N 0)) (b := 0) (by omega) (by omega) c_119
                  refine lv_iload hx hb dL_change_278 (lv_at hl 7 rfl) ?_
                  refine lv_iconst (v := 5) hx hb dL_change_280 (by decide) ?_
                  refine lv_icmp_ge (tgt := 303) hx hb dL_change_281 (by decide) (fun c_120 => ?_) (fun c_120 => ?_)
                  · replace c_120 := cn_le (a := 5) (b := (N 2)) (by omega) (by omega) c_120
                    refine lv_iconst (v := 0) hx hb dL_change_303 (by decide) ?_
                    have hv9 : chg N Z v w = (0, N, Z) := by rw [hg]; unfold ch3; rw [if_neg (by first | assumption | omega | exact (fun q9 => by first | omega | exact absurd q9.2 (by assumption) | exact absurd q9.2.1 (by assumption) | exact absurd q9.2.2 (by assumption)))]
                    exact hret _ H _ _ _ _ _ (show some (Value.int 0) = some (Value.int ((chg N Z v w).1)) ∧ wst G T q a (chg N Z v w).2.1 (chg N Z v w).2.2 b tx L cu er le nb nc H from ⟨by rw [hv9], by rw [hv9]; exact wst_id hsc hP⟩) rfl hS (Nat.le_of_ble_eq_true rfl) (Nat.le_of_ble_eq_true rfl) dL_change_304
                  · replace c_120 := cn_nle (a := 5) (b := (N 2)) (by omega) (by omega) c_120
                    refine lv_aload_n hx hb dL_change_284 rfl (lv_at hl 2 rfl) ?_
                    refine lv_iload hx hb dL_change_285 (lv_at hl 9 rfl) ?_
                    refine lv_iload_n hx hb dL_change_287 rfl (lv_at hl 4 rfl) ?_
                    refine lv_iconst (v := 3) hx hb dL_change_288 (by decide) ?_
                    refine lv_ishr hx hb dL_change_289 ?_
                    refine lv_iconst (v := 1) hx hb dL_change_290 (by decide) ?_
                    refine lv_iload hx hb dL_change_291 (lv_at hl 6 rfl) ?_
                    refine lv_ishl hx hb dL_change_293 ?_
                    refine W.eq (g2 := F0 m 294 ls [.int (nI (2 ^ N 1)), .int (w >>> (3 &&& 31)), .int (nI (chA N v)), .ref (q 0)]) (congrArg (fun z9 => F0 m 294 ls (.int z9 :: [.int (w >>> (3 &&& 31)), .int (nI (chA N v)), .ref (q 0)])) (sh_1 (N 1) (by omega))) ?_
                    refine ro_S S hkx (mL_low l (v := (w >>> (3 &&& 31))) (k := (2 ^ N 1)) (h0 := (Nat.pow_pos (by decide))) (hk := (Nat.pow_lt_pow_right (by decide) (by omega)))) gL_change_L_low rfl idL_low.2 ⟨Nat.le_of_ble_eq_true rfl, Nat.le_of_ble_eq_true rfl⟩ rfl hl.1 rfl (Nat.le_of_ble_eq_true rfl) dL_change_294 ⟨Nat.le_of_ble_eq_true rfl, Nat.le_of_ble_eq_true rfl⟩ (fun r9 hr9 => ?_)
                    subst hr9
                    refine W.eq (g2 := F0 m 297 ls [.int (nI (lowN (w >>> (3 &&& 31)) (2 ^ N 1))), .int (nI (chA N v)), .ref (q 0)]) rfl ?_
                    refine wn_V S hkx hth (nX5_addUser l hl0 (sa := sa) (A9 := A) (h9 := (fun q h => hA q (Nat.le_trans hS.1 h))) (hP := hP) (hD := hD.weaken (fun _ _ _ _ => trivial)) (hwf := hwf) (hsc := (by omega)) (hv := (chA_lt (by omega))) (hx := (lowN_lt _ (Nat.pow_pos (by decide)))) (h8 := (by omega)) (v := (chA N v)) (x := (lowN (w >>> (3 &&& 31)) (2 ^ N 1)))) gL_change_X5_addUser rfl idX5_addUser ⟨Nat.le_of_ble_eq_true rfl, Nat.le_of_ble_eq_true rfl⟩ hP 0 rfl rfl rfl rfl hl.1 rfl (Nat.le_of_ble_eq_true rfl) dL_change_297 ⟨Nat.le_of_ble_eq_true rfl, Nat.le_of_ble_eq_true rfl⟩ hS (fr_in hD (fun q h => hA q (Nat.le_trans hS.1 h))) (fun v9 H locs hp9 hz1 hk1 hS => ?_)
                    obtain ⟨rfl, hP⟩ := hp9
                    have hP : va_P G vwCl (wMain T q a (va_up N 2 (N 2 + 1)) (uAdd N Z (nI (chA N v)) (nI (lowN (w >>> (3 &&& 31)) (2 ^ N 1)))) (svB sc b) (psh sc M N) (psh sc Y Z) (svC sc) tx L cu er le nb nc) H := hP
                    have hD : va_D A (wMain T q a (va_up N 2 (N 2 + 1)) (uAdd N Z (nI (chA N v)) (nI (lowN (w >>> (3 &&& 31)) (2 ^ N 1)))) (svB sc b) (psh sc M N) (psh sc Y Z) (svC sc) tx L cu er le nb nc) := D_perm hD sv_addr
                    have hth := hth0.kept hS.2.1
                    refine W.eq (g2 := F0 m 300 ls [.int (nI (N 2))]) rfl ?_
                    refine lv_goto (tgt := 304) hx hb dL_change_300 (by decide) ?_
                    have hv9 : chg N Z v w = ((nI (N 2)), (va_up N 2 (N 2 + 1)), (uAdd N Z (nI (chA N v)) (nI (lowN (w >>> (3 &&& 31)) (2 ^ N 1))))) := by rw [hg]; unfold ch3; rw [if_pos (by first | assumption | omega | exact ⟨by first | assumption | omega, by first | assumption | omega⟩ | exact ⟨by first | assumption | omega, by first | assumption | omega, by first | assumption | omega⟩)]
                    exact hret _ H _ _ _ _ _ (show some (Value.int (nI (N 2))) = some (Value.int ((chg N Z v w).1)) ∧ wst G T q a (chg N Z v w).2.1 (chg N Z v w).2.2 b tx L cu er le nb nc H from ⟨by rw [hv9], by rw [hv9]; exact wst_sv hsc hP⟩) rfl hS (Nat.le_of_ble_eq_true rfl) (Nat.le_of_ble_eq_true rfl) dL_change_304
              · refine lv_tableIn (off := 213) (tgt := 305) hx hb dL_change_92 (by decide) (by decide) rfl (by decide) ?_
                have hg : chg N Z v w = ch4 N Z v w := by unfold chg; rw [hcz]; rfl
                refine lv_iload hx hb dL_change_305 (lv_at hl 7 rfl) ?_
                refine lv_if_le (tgt := 328) hx hb dL_change_307 (by decide) (fun c_121 => ?_) (fun c_121 => ?_)
                · replace c_121 := cn_le (a := (N 2)) (b := 0) (by omega) (by omega) c_121
                  refine lv_iconst (v := 0) hx hb dL_change_328 (by decide) ?_
                  have hv9 : chg N Z v w = (0, N, Z) := by rw [hg]; unfold ch4; rw [if_neg (by first | assumption | omega | exact (fun q9 => by first | omega | exact absurd q9.2 (by assumption) | exact absurd q9.2.1 (by assumption) | exact absurd q9.2.2 (by assumption)))]
                  exact hret _ H _ _ _ _ _ (show some (Value.int 0) = some (Value.int ((chg N Z v w).1)) ∧ wst G T q a (chg N Z v w).2.1 (chg N Z v w).2.2 b tx L cu er le nb nc H from ⟨by rw [hv9], by rw [hv9]; exact wst_id hsc hP⟩) rfl hS (Nat.le_of_ble_eq_true rfl) (Nat.le_of_ble_eq_true rfl) dL_change_329
                · replace c_121 := cn_nle (a := (N 2)) (b := 0) (by omega) (by omega) c_121
                  refine lv_aload_n hx hb dL_change_310 rfl (lv_at hl 2 rfl) ?_
                  refine lv_iload hx hb dL_change_311 (lv_at hl 8 rfl) ?_
                  refine lv_iload hx hb dL_change_313 (lv_at hl 9 rfl) ?_
                  refine lv_iload_n hx hb dL_change_315 rfl (lv_at hl 4 rfl) ?_
                  refine lv_sipush (v := 1000) hx hb dL_change_316 (by decide) ?_
                  refine ro_S S hkx (mL_low l (v := w) (k := 1000) (h0 := (by omega)) (hk := (by omega))) gL_change_L_low rfl idL_low.2 ⟨Nat.le_of_ble_eq_true rfl, Nat.le_of_ble_eq_true rfl⟩ rfl hl.1 rfl (Nat.le_of_ble_eq_true rfl) dL_change_319 ⟨Nat.le_of_ble_eq_true rfl, Nat.le_of_ble_eq_true rfl⟩ (fun r9 hr9 => ?_)
                  subst hr9
                  refine W.eq (g2 := F0 m 322 ls [.int (nI (lowN w 1000)), .int (nI (chA N v)), .int (nI (chU N v)), .ref (q 0)]) rfl ?_
                  refine wn_V S hkx hth (nX5_pledge l hl0 (sa := sa) (A9 := A) (h9 := (fun q h => hA q (Nat.le_trans hS.1 h))) (hP := hP) (hD := hD.weaken (fun _ _ _ _ => trivial)) (hwf := hwf) (hsc := (by omega)) (hu := (chU_lt (by omega))) (hv := (chA_lt (u_v hwf (by omega)))) (hd := (by omega)) (u := (chU N v)) (v := (chA N v)) (d := (lowN w 1000))) gL_change_X5_pledge rfl idX5_pledge ⟨Nat.le_of_ble_eq_true rfl, Nat.le_of_ble_eq_true rfl⟩ hP 0 rfl rfl rfl rfl hl.1 rfl (Nat.le_of_ble_eq_true rfl) dL_change_322 ⟨Nat.le_of_ble_eq_true rfl, Nat.le_of_ble_eq_true rfl⟩ hS (fr_in hD (fun q h => hA q (Nat.le_trans hS.1 h))) (fun v9 H locs hp9 hz1 hk1 hS => ?_)
                  obtain ⟨rfl, hP⟩ := hp9
                  have hP : va_P G vwCl (wMain T q a N (uPl Z (chU N v) (nI (chA N v)) (nI (lowN w 1000))) (svB sc b) (psh sc M N) (psh sc Y Z) (svC sc) tx L cu er le nb nc) H := hP
                  have hD : va_D A (wMain T q a N (uPl Z (chU N v) (nI (chA N v)) (nI (lowN w 1000))) (svB sc b) (psh sc M N) (psh sc Y Z) (svC sc) tx L cu er le nb nc) := D_perm hD sv_addr
                  have hth := hth0.kept hS.2.1
                  refine W.eq (g2 := F0 m 325 ls [.int (Z 8 (chU N v))]) rfl ?_
                  refine lv_goto (tgt := 329) hx hb dL_change_325 (by decide) ?_
                  have hv9 : chg N Z v w = ((Z 8 (chU N v)), N, (uPl Z (chU N v) (nI (chA N v)) (nI (lowN w 1000)))) := by rw [hg]; unfold ch4; rw [if_pos (by first | assumption | omega | exact ⟨by first | assumption | omega, by first | assumption | omega⟩ | exact ⟨by first | assumption | omega, by first | assumption | omega, by first | assumption | omega⟩)]
                  exact hret _ H _ _ _ _ _ (show some (Value.int (Z 8 (chU N v))) = some (Value.int ((chg N Z v w).1)) ∧ wst G T q a (chg N Z v w).2.1 (chg N Z v w).2.2 b tx L cu er le nb nc H from ⟨by rw [hv9], by rw [hv9]; exact wst_sv hsc hP⟩) rfl hS (Nat.le_of_ble_eq_true rfl) (Nat.le_of_ble_eq_true rfl) dL_change_329
              · refine lv_tableIn (off := 213) (tgt := 305) hx hb dL_change_92 (by decide) (by decide) rfl (by decide) ?_
                have hg : chg N Z v w = ch4 N Z v w := by unfold chg; rw [hcz]; rfl
                refine lv_iload hx hb dL_change_305 (lv_at hl 7 rfl) ?_
                refine lv_if_le (tgt := 328) hx hb dL_change_307 (by decide) (fun c_122 => ?_) (fun c_122 => ?_)
                · replace c_122 := cn_le (a := (N 2)) (b := 0) (by omega) (by omega) c_122
                  refine lv_iconst (v := 0) hx hb dL_change_328 (by decide) ?_
                  have hv9 : chg N Z v w = (0, N, Z) := by rw [hg]; unfold ch4; rw [if_neg (by first | assumption | omega | exact (fun q9 => by first | omega | exact absurd q9.2 (by assumption) | exact absurd q9.2.1 (by assumption) | exact absurd q9.2.2 (by assumption)))]
                  exact hret _ H _ _ _ _ _ (show some (Value.int 0) = some (Value.int ((chg N Z v w).1)) ∧ wst G T q a (chg N Z v w).2.1 (chg N Z v w).2.2 b tx L cu er le nb nc H from ⟨by rw [hv9], by rw [hv9]; exact wst_id hsc hP⟩) rfl hS (Nat.le_of_ble_eq_true rfl) (Nat.le_of_ble_eq_true rfl) dL_change_329
                · replace c_122 := cn_nle (a := (N 2)) (b := 0) (by omega) (by omega) c_122
                  refine lv_aload_n hx hb dL_change_310 rfl (lv_at hl 2 rfl) ?_
                  refine lv_iload hx hb dL_change_311 (lv_at hl 8 rfl) ?_
                  refine lv_iload hx hb dL_change_313 (lv_at hl 9 rfl) ?_
                  refine lv_iload_n hx hb dL_change_315 rfl (lv_at hl 4 rfl) ?_
                  refine lv_sipush (v := 1000) hx hb dL_change_316 (by decide) ?_
                  refine ro_S S hkx (mL_low l (v := w) (k := 1000) (h0 := (by omega)) (hk := (by omega))) gL_change_L_low rfl idL_low.2 ⟨Nat.le_of_ble_eq_true rfl, Nat.le_of_ble_eq_true rfl⟩ rfl hl.1 rfl (Nat.le_of_ble_eq_true rfl) dL_change_319 ⟨Nat.le_of_ble_eq_true rfl, Nat.le_of_ble_eq_true rfl⟩ (fun r9 hr9 => ?_)
                  subst hr9
                  refine W.eq (g2 := F0 m 322 ls [.int (nI (lowN w 1000)), .int (nI (chA N v)), .int (nI (chU N v)), .ref (q 0)]) rfl ?_
                  refine wn_V S hkx hth (nX5_pledge l hl0 (sa := sa) (A9 := A) (h9 := (fun q h => hA q (Nat.le_trans hS.1 h))) (hP := hP) (hD := hD.weaken (fun _ _ _ _ => trivial)) (hwf := hwf) (hsc := (by omega)) (hu := (chU_lt (by omega))) (hv := (chA_lt (u_v hwf (by omega)))) (hd := (by omega)) (u := (chU N v)) (v := (chA N v)) (d := (lowN w 1000))) gL_change_X5_pledge rfl idX5_pledge ⟨Nat.le_of_ble_eq_true rfl, Nat.le_of_ble_eq_true rfl⟩ hP 0 rfl rfl rfl rfl hl.1 rfl (Nat.le_of_ble_eq_true rfl) dL_change_322 ⟨Nat.le_of_ble_eq_true rfl, Nat.le_of_ble_eq_true rfl⟩ hS (fr_in hD (fun q h => hA q (Nat.le_trans hS.1 h))) (fun v9 H locs hp9 hz1 hk1 hS => ?_)
                  obtain ⟨rfl, hP⟩ := hp9
                  have hP : va_P G vwCl (wMain T q a N (uPl Z (chU N v) (nI (chA N v)) (nI (lowN w 1000))) (svB sc b) (psh sc M N) (psh sc Y Z) (svC sc) tx L cu er le nb nc) H := hP
                  have hD : va_D A (wMain T q a N (uPl Z (chU N v) (nI (chA N v)) (nI (lowN w 1000))) (svB sc b) (psh sc M N) (psh sc Y Z) (svC sc) tx L cu er le nb nc) := D_perm hD sv_addr
                  have hth := hth0.kept hS.2.1
                  refine W.eq (g2 := F0 m 325 ls [.int (Z 8 (chU N v))]) rfl ?_
                  refine lv_goto (tgt := 329) hx hb dL_change_325 (by decide) ?_
                  have hv9 : chg N Z v w = ((Z 8 (chU N v)), N, (uPl Z (chU N v) (nI (chA N v)) (nI (lowN w 1000)))) := by rw [hg]; unfold ch4; rw [if_pos (by first | assumption | omega | exact ⟨by first | assumption | omega, by first | assumption | omega⟩ | exact ⟨by first | assumption | omega, by first | assumption | omega, by first | assumption | omega⟩)]
                  exact hret _ H _ _ _ _ _ (show some (Value.int (Z 8 (chU N v))) = some (Value.int ((chg N Z v w).1)) ∧ wst G T q a (chg N Z v w).2.1 (chg N Z v w).2.2 b tx L cu er le nb nc H from ⟨by rw [hv9], by rw [hv9]; exact wst_sv hsc hP⟩) rfl hS (Nat.le_of_ble_eq_true rfl) (Nat.le_of_ble_eq_true rfl) dL_change_329
              · refine lv_tableIn (off := 238) (tgt := 330) hx hb dL_change_92 (by decide) (by decide) rfl (by decide) ?_
                have hg : chg N Z v w = ch6 N Z v := by unfold chg; rw [hcz]; rfl
                refine lv_iload hx hb dL_change_330 (lv_at hl 7 rfl) ?_
                refine lv_if_le (tgt := 354) hx hb dL_change_332 (by decide) (fun c_123 => ?_) (fun c_123 => ?_)
                · replace c_123 := cn_le (a := (N 2)) (b := 0) (by omega) (by omega) c_123
                  refine lv_iconst (v := 0) hx hb dL_change_354 (by decide) ?_
                  have hv9 : chg N Z v w = (0, N, Z) := by rw [hg]; unfold ch6; rw [if_neg (by first | assumption | omega | exact (fun q9 => by first | omega | exact absurd q9.2 (by assumption) | exact absurd q9.2.1 (by assumption) | exact absurd q9.2.2 (by assumption)))]
                  exact hret _ H _ _ _ _ _ (show some (Value.int 0) = some (Value.int ((chg N Z v w).1)) ∧ wst G T q a (chg N Z v w).2.1 (chg N Z v w).2.2 b tx L cu er le nb nc H from ⟨by rw [hv9], by rw [hv9]; exact wst_id hsc hP⟩) rfl hS (Nat.le_of_ble_eq_true rfl) (Nat.le_of_ble_eq_true rfl) dL_change_355
                · replace c_123 := cn_nle (a := (N 2)) (b := 0) (by omega) (by omega) c_123
                  refine lv_aload_n hx hb dL_change_335 rfl (lv_at hl 2 rfl) ?_
                  refine lv_iload hx hb dL_change_336 (lv_at hl 8 rfl) ?_
                  refine lv_iconst (v := 2) hx hb dL_change_338 (by decide) ?_
                  refine rn_V S hkx hth (nX5_user l hl0 (sa := sa) (h9 := (fun q h => hA q (Nat.le_trans hS.1 h))) (hP := hP) (hwf := hwf) (hu := (chU_lt (by omega))) (hw := (by omega)) (u := (chU N v)) (w := 2)) gL_change_X5_user rfl idX5_user ⟨Nat.le_of_ble_eq_true rfl, Nat.le_of_ble_eq_true rfl⟩ hP 0 rfl rfl rfl rfl hl.1 rfl (Nat.le_of_ble_eq_true rfl) dL_change_339 ⟨Nat.le_of_ble_eq_true rfl, Nat.le_of_ble_eq_true rfl⟩ (fun v9 hv9 => ?_)
                  subst hv9
                  refine W.eq (g2 := F0 m 342 ls [.int (Z 7 (chU N v))]) rfl ?_
                  refine lv_if_lt (tgt := 354) hx hb dL_change_342 (by decide) (fun c_124 => ?_) (fun c_124 => ?_)
                  · have c_124n := Int32.not_le.mpr c_124
                    refine lv_iconst (v := 0) hx hb dL_change_354 (by decide) ?_
                    have hv9 : chg N Z v w = (0, N, Z) := by rw [hg]; unfold ch6; rw [if_neg (by first | assumption | omega | exact (fun q9 => by first | omega | exact absurd q9.2 (by assumption) | exact absurd q9.2.1 (by assumption) | exact absurd q9.2.2 (by assumption)))]
                    exact hret _ H _ _ _ _ _ (show some (Value.int 0) = some (Value.int ((chg N Z v w).1)) ∧ wst G T q a (chg N Z v w).2.1 (chg N Z v w).2.2 b tx L cu er le nb nc H from ⟨by rw [hv9], by rw [hv9]; exact wst_id hsc hP⟩) rfl hS (Nat.le_of_ble_eq_true rfl) (Nat.le_of_ble_eq_true rfl) dL_change_355
                  · have c_124n := Int32.not_lt.mp c_124
                    refine lv_aload_n hx hb dL_change_345 rfl (lv_at hl 2 rfl) ?_
                    refine lv_iload hx hb dL_change_346 (lv_at hl 8 rfl) ?_
                    refine wn_V S hkx hth (nX5_takeBack l hl0 (sa := sa) (A9 := A) (h9 := (fun q h => hA q (Nat.le_trans hS.1 h))) (hP := hP) (hD := hD.weaken (fun _ _ _ _ => trivial)) (hwf := hwf) (hsc := (by omega)) (hu := (chU_lt (by omega))) (hp := (pl_u hwf (chU_lt (by omega)) (by assumption)).1) (u := (chU N v))) gL_change_X5_takeBack rfl idX5_takeBack ⟨Nat.le_of_ble_eq_true rfl, Nat.le_of_ble_eq_true rfl⟩ hP 0 rfl rfl rfl rfl hl.1 rfl (Nat.le_of_ble_eq_true rfl) dL_change_348 ⟨Nat.le_of_ble_eq_true rfl, Nat.le_of_ble_eq_true rfl⟩ hS (fr_in hD (fun q h => hA q (Nat.le_trans hS.1 h))) (fun v9 H locs hp9 hz1 hk1 hS => ?_)
                    obtain ⟨rfl, hP⟩ := hp9
                    have hP : va_P G vwCl (wMain T q a N (uPl Z (chU N v) (-1) (-1)) (svB sc b) (psh sc M N) (psh sc Y Z) (svC sc) tx L cu er le nb nc) H := hP
                    have hD : va_D A (wMain T q a N (uPl Z (chU N v) (-1) (-1)) (svB sc b) (psh sc M N) (psh sc Y Z) (svC sc) tx L cu er le nb nc) := D_perm hD sv_addr
                    have hth := hth0.kept hS.2.1
                    refine W.eq (g2 := F0 m 351 ls [.int (Z 8 (chU N v))]) rfl ?_
                    refine lv_goto (tgt := 355) hx hb dL_change_351 (by decide) ?_
                    have hv9 : chg N Z v w = ((Z 8 (chU N v)), N, (uPl Z (chU N v) (-1) (-1))) := by rw [hg]; unfold ch6; rw [if_pos (by first | assumption | omega | exact ⟨by first | assumption | omega, by first | assumption | omega⟩ | exact ⟨by first | assumption | omega, by first | assumption | omega, by first | assumption | omega⟩)]
                    exact hret _ H _ _ _ _ _ (show some (Value.int (Z 8 (chU N v))) = some (Value.int ((chg N Z v w).1)) ∧ wst G T q a (chg N Z v w).2.1 (chg N Z v w).2.2 b tx L cu er le nb nc H from ⟨by rw [hv9], by rw [hv9]; exact wst_sv hsc hP⟩) rfl hS (Nat.le_of_ble_eq_true rfl) (Nat.le_of_ble_eq_true rfl) dL_change_355
              · refine lv_tableIn (off := 264) (tgt := 356) hx hb dL_change_92 (by decide) (by decide) rfl (by decide) ?_
                have hg : chg N Z v w = ch7 N Z v w := by unfold chg; rw [hcz]; rfl
                refine lv_iload hx hb dL_change_356 (lv_at hl 7 rfl) ?_
                refine lv_if_le (tgt := 401) hx hb dL_change_358 (by decide) (fun c_125 => ?_) (fun c_125 => ?_)
                · replace c_125 := cn_le (a := (N 2)) (b := 0) (by omega) (by omega) c_125
                  refine lv_iconst (v := 0) hx hb dL_change_401 (by decide) ?_
                  have hv9 : chg N Z v w = (0, N, Z) := by rw [hg]; unfold ch7; rw [if_neg (by first | assumption | omega | exact (fun q9 => by first | omega | exact absurd q9.2 (by assumption) | exact absurd q9.2.1 (by assumption) | exact absurd q9.2.2 (by assumption)))]
                  exact hret _ H _ _ _ _ _ (show some (Value.int 0) = some (Value.int ((chg N Z v w).1)) ∧ wst G T q a (chg N Z v w).2.1 (chg N Z v w).2.2 b tx L cu er le nb nc H from ⟨by rw [hv9], by rw [hv9]; exact wst_id hsc hP⟩) rfl hS (Nat.le_of_ble_eq_true rfl) (Nat.le_of_ble_eq_true rfl) dL_change_402
                · replace c_125 := cn_nle (a := (N 2)) (b := 0) (by omega) (by omega) c_125
                  refine lv_aload_n hx hb dL_change_361 rfl (lv_at hl 2 rfl) ?_
                  refine lv_iload hx hb dL_change_362 (lv_at hl 8 rfl) ?_
                  refine lv_iconst (v := 2) hx hb dL_change_364 (by decide) ?_
                  refine rn_V S hkx hth (nX5_user l hl0 (sa := sa) (h9 := (fun q h => hA q (Nat.le_trans hS.1 h))) (hP := hP) (hwf := hwf) (hu := (chU_lt (by omega))) (hw := (by omega)) (u := (chU N v)) (w := 2)) gL_change_X5_user rfl idX5_user ⟨Nat.le_of_ble_eq_true rfl, Nat.le_of_ble_eq_true rfl⟩ hP 0 rfl rfl rfl rfl hl.1 rfl (Nat.le_of_ble_eq_true rfl) dL_change_365 ⟨Nat.le_of_ble_eq_true rfl, Nat.le_of_ble_eq_true rfl⟩ (fun v9 hv9 => ?_)
                  subst hv9
                  refine W.eq (g2 := F0 m 368 ls [.int (Z 7 (chU N v))]) rfl ?_
                  refine lv_if_lt (tgt := 401) hx hb dL_change_368 (by decide) (fun c_126 => ?_) (fun c_126 => ?_)
                  · have c_126n := Int32.not_le.mpr c_126
                    refine lv_iconst (v := 0) hx hb dL_change_401 (by decide) ?_
                    have hv9 : chg N Z v w = (0, N, Z) := by rw [hg]; unfold ch7; rw [if_neg (by first | assumption | omega | exact (fun q9 => by first | omega | exact absurd q9.2 (by assumption) | exact absurd q9.2.1 (by assumption) | exact absurd q9.2.2 (by assumption)))]
                    exact hret _ H _ _ _ _ _ (show some (Value.int 0) = some (Value.int ((chg N Z v w).1)) ∧ wst G T q a (chg N Z v w).2.1 (chg N Z v w).2.2 b tx L cu er le nb nc H from ⟨by rw [hv9], by rw [hv9]; exact wst_id hsc hP⟩) rfl hS (Nat.le_of_ble_eq_true rfl) (Nat.le_of_ble_eq_true rfl) dL_change_402
                  · have c_126n := Int32.not_lt.mp c_126
                    refine lv_aload_n hx hb dL_change_371 rfl (lv_at hl 2 rfl) ?_
                    refine lv_iload hx hb dL_change_372 (lv_at hl 8 rfl) ?_
                    refine lv_iconst (v := 3) hx hb dL_change_374 (by decide) ?_
                    refine rn_V S hkx hth (nX5_user l hl0 (sa := sa) (h9 := (fun q h => hA q (Nat.le_trans hS.1 h))) (hP := hP) (hwf := hwf) (hu := (chU_lt (by omega))) (hw := (by omega)) (u := (chU N v)) (w := 3)) gL_change_X5_user rfl idX5_user ⟨Nat.le_of_ble_eq_true rfl, Nat.le_of_ble_eq_true rfl⟩ hP 0 rfl rfl rfl rfl hl.1 rfl (Nat.le_of_ble_eq_true rfl) dL_change_375 ⟨Nat.le_of_ble_eq_true rfl, Nat.le_of_ble_eq_true rfl⟩ (fun v9 hv9 => ?_)
                    subst hv9
                    refine W.eq (g2 := F0 m 378 ls [.int (Z 8 (chU N v))]) rfl ?_
                    refine lv_sipush (v := 900) hx hb dL_change_378 (by decide) ?_
                    refine lv_icmp_ge (tgt := 401) hx hb dL_change_381 (by decide) (fun c_127 => ?_) (fun c_127 => ?_)
                    · have c_127n := Int32.not_lt.mpr c_127
                      refine lv_iconst (v := 0) hx hb dL_change_401 (by decide) ?_
                      have hv9 : chg N Z v w = (0, N, Z) := by rw [hg]; unfold ch7; rw [if_neg (by first | assumption | omega | exact (fun q9 => by first | omega | exact absurd q9.2 (by assumption) | exact absurd q9.2.1 (by assumption) | exact absurd q9.2.2 (by assumption)))]
                      exact hret _ H _ _ _ _ _ (show some (Value.int 0) = some (Value.int ((chg N Z v w).1)) ∧ wst G T q a (chg N Z v w).2.1 (chg N Z v w).2.2 b tx L cu er le nb nc H from ⟨by rw [hv9], by rw [hv9]; exact wst_id hsc hP⟩) rfl hS (Nat.le_of_ble_eq_true rfl) (Nat.le_of_ble_eq_true rfl) dL_change_402
                    · have c_127n := Int32.not_le.mp c_127
                      refine lv_aload_n hx hb dL_change_384 rfl (lv_at hl 2 rfl) ?_
                      refine lv_iload hx hb dL_change_385 (lv_at hl 8 rfl) ?_
                      refine lv_iconst (v := 1) hx hb dL_change_387 (by decide) ?_
                      refine lv_iload_n hx hb dL_change_388 rfl (lv_at hl 4 rfl) ?_
                      refine lv_bipush (v := 99) hx hb dL_change_389 (by decide) ?_
                      refine ro_S S hkx (mL_low l (v := w) (k := 99) (h0 := (by omega)) (hk := (by omega))) gL_change_L_low rfl idL_low.2 ⟨Nat.le_of_ble_eq_true rfl, Nat.le_of_ble_eq_true rfl⟩ rfl hl.1 rfl (Nat.le_of_ble_eq_true rfl) dL_change_391 ⟨Nat.le_of_ble_eq_true rfl, Nat.le_of_ble_eq_true rfl⟩ (fun r9 hr9 => ?_)
                      subst hr9
                      refine W.eq (g2 := F0 m 394 ls [.int (nI (lowN w 99)), .int 1, .int (nI (chU N v)), .ref (q 0)]) rfl ?_
                      refine lv_iadd hx hb dL_change_394 ?_
                      refine W.eq (g2 := F0 m 395 ls [.int (nI (1 + (lowN w 99))), .int (nI (chU N v)), .ref (q 0)]) (congrArg (fun z9 => F0 m 395 ls (.int z9 :: [.int (nI (chU N v)), .ref (q 0)])) (nI_add 1 _)) ?_
                      refine wn_V S hkx hth (nX5_slip l hl0 (sa := sa) (A9 := A) (h9 := (fun q h => hA q (Nat.le_trans hS.1 h))) (hP := hP) (hD := hD.weaken (fun _ _ _ _ => trivial)) (hwf := hwf) (hsc := (by omega)) (hu := (chU_lt (by omega))) (ht1 := (by omega)) (ht := (by omega)) (hp := (pl_u hwf (chU_lt (by omega)) (by assumption)).1) (h9d := (sl_rng hwf (chU_lt (by omega)) (by assumption) (by assumption) (by omega))) (u := (chU N v)) (t := (1 + (lowN w 99)))) gL_change_X5_slip rfl idX5_slip ⟨Nat.le_of_ble_eq_true rfl, Nat.le_of_ble_eq_true rfl⟩ hP 0 rfl rfl rfl rfl hl.1 rfl (Nat.le_of_ble_eq_true rfl) dL_change_395 ⟨Nat.le_of_ble_eq_true rfl, Nat.le_of_ble_eq_true rfl⟩ hS (fr_in hD (fun q h => hA q (Nat.le_trans hS.1 h))) (fun v9 H locs hp9 hz1 hk1 hS => ?_)
                      obtain ⟨rfl, hP⟩ := hp9
                      have hP : va_P G vwCl (wMain T q a N (uSl Z (chU N v) (nI (1 + (lowN w 99)))) (svB sc b) (psh sc M N) (psh sc Y Z) (svC sc) tx L cu er le nb nc) H := hP
                      have hD : va_D A (wMain T q a N (uSl Z (chU N v) (nI (1 + (lowN w 99)))) (svB sc b) (psh sc M N) (psh sc Y Z) (svC sc) tx L cu er le nb nc) := D_perm hD sv_addr
                      have hth := hth0.kept hS.2.1
                      refine W.eq (g2 := F0 m 398 ls [.int (uSl Z (chU N v) (nI (1 + (lowN w 99))) 8 (chU N v))]) rfl ?_
                      refine lv_goto (tgt := 402) hx hb dL_change_398 (by decide) ?_
                      have hv9 : chg N Z v w = ((uSl Z (chU N v) (nI (1 + (lowN w 99))) 8 (chU N v)), N, (uSl Z (chU N v) (nI (1 + (lowN w 99))))) := by rw [hg]; unfold ch7; rw [if_pos (by first | assumption | omega | exact ⟨by first | assumption | omega, by first | assumption | omega⟩ | exact ⟨by first | assumption | omega, by first | assumption | omega, by first | assumption | omega⟩)]
                      exact hret _ H _ _ _ _ _ (show some (Value.int (uSl Z (chU N v) (nI (1 + (lowN w 99))) 8 (chU N v))) = some (Value.int ((chg N Z v w).1)) ∧ wst G T q a (chg N Z v w).2.1 (chg N Z v w).2.2 b tx L cu er le nb nc H from ⟨by rw [hv9], by rw [hv9]; exact wst_sv hsc hP⟩) rfl hS (Nat.le_of_ble_eq_true rfl) (Nat.le_of_ble_eq_true rfl) dL_change_402
              · refine lv_tableIn (off := 311) (tgt := 403) hx hb dL_change_92 (by decide) (by decide) rfl (by decide) ?_
                have hg : chg N Z v w = ch8 N Z v w := by unfold chg; rw [hcz]; rfl
                refine lv_iload_n hx hb dL_change_403 rfl (lv_at hl 5 rfl) ?_
                refine lv_if_le (tgt := 437) hx hb dL_change_404 (by decide) (fun c_128 => ?_) (fun c_128 => ?_)
                · replace c_128 := cn_le (a := (N 0)) (b := 0) (by omega) (by omega) c_128
                  refine lv_iconst (v := 0) hx hb dL_change_437 (by decide) ?_
                  have hv9 : chg N Z v w = (0, N, Z) := by rw [hg]; unfold ch8; rw [if_neg (by first | assumption | omega | exact (fun q9 => by first | omega | exact absurd q9.2 (by assumption) | exact absurd q9.2.1 (by assumption) | exact absurd q9.2.2 (by assumption)))]
                  exact hret _ H _ _ _ _ _ (show some (Value.int 0) = some (Value.int ((chg N Z v w).1)) ∧ wst G T q a (chg N Z v w).2.1 (chg N Z v w).2.2 b tx L cu er le nb nc H from ⟨by rw [hv9], by rw [hv9]; exact wst_id hsc hP⟩) rfl hS (Nat.le_of_ble_eq_true rfl) (Nat.le_of_ble_eq_true rfl) dL_change_438
                · replace c_128 := cn_nle (a := (N 0)) (b := 0) (by omega) (by omega) c_128
                  refine lv_aload_n hx hb dL_change_407 rfl (lv_at hl 2 rfl) ?_
                  refine lv_iload hx hb dL_change_408 (lv_at hl 9 rfl) ?_
                  refine lv_iconst (v := 1) hx hb dL_change_410 (by decide) ?_
                  refine rn_V S hkx hth (nX5_version l hl0 (sa := sa) (h9 := (fun q h => hA q (Nat.le_trans hS.1 h))) (hP := hP) (hwf := hwf) (hv := (chA_lt (by omega))) (hw := (by omega)) (v := (chA N v)) (w := 1)) gL_change_X5_version rfl idX5_version ⟨Nat.le_of_ble_eq_true rfl, Nat.le_of_ble_eq_true rfl⟩ hP 0 rfl rfl rfl rfl hl.1 rfl (Nat.le_of_ble_eq_true rfl) dL_change_411 ⟨Nat.le_of_ble_eq_true rfl, Nat.le_of_ble_eq_true rfl⟩ (fun v9 hv9 => ?_)
                  subst hv9
                  refine W.eq (g2 := F0 m 414 ls [.int (Z 2 (chA N v))]) rfl ?_
                  refine lv_sipush (v := 900) hx hb dL_change_414 (by decide) ?_
                  refine lv_icmp_ge (tgt := 437) hx hb dL_change_417 (by decide) (fun c_129 => ?_) (fun c_129 => ?_)
                  · have c_129n := Int32.not_lt.mpr c_129
                    refine lv_iconst (v := 0) hx hb dL_change_437 (by decide) ?_
                    have hv9 : chg N Z v w = (0, N, Z) := by rw [hg]; unfold ch8; rw [if_neg (by first | assumption | omega | exact (fun q9 => by first | omega | exact absurd q9.2 (by assumption) | exact absurd q9.2.1 (by assumption) | exact absurd q9.2.2 (by assumption)))]
                    exact hret _ H _ _ _ _ _ (show some (Value.int 0) = some (Value.int ((chg N Z v w).1)) ∧ wst G T q a (chg N Z v w).2.1 (chg N Z v w).2.2 b tx L cu er le nb nc H from ⟨by rw [hv9], by rw [hv9]; exact wst_id hsc hP⟩) rfl hS (Nat.le_of_ble_eq_true rfl) (Nat.le_of_ble_eq_true rfl) dL_change_438
                  · have c_129n := Int32.not_le.mp c_129
                    refine lv_aload_n hx hb dL_change_420 rfl (lv_at hl 2 rfl) ?_
                    refine lv_iload hx hb dL_change_421 (lv_at hl 9 rfl) ?_
                    refine lv_iconst (v := 1) hx hb dL_change_423 (by decide) ?_
                    refine lv_iload_n hx hb dL_change_424 rfl (lv_at hl 4 rfl) ?_
                    refine lv_bipush (v := 99) hx hb dL_change_425 (by decide) ?_
                    refine ro_S S hkx (mL_low l (v := w) (k := 99) (h0 := (by omega)) (hk := (by omega))) gL_change_L_low rfl idL_low.2 ⟨Nat.le_of_ble_eq_true rfl, Nat.le_of_ble_eq_true rfl⟩ rfl hl.1 rfl (Nat.le_of_ble_eq_true rfl) dL_change_427 ⟨Nat.le_of_ble_eq_true rfl, Nat.le_of_ble_eq_true rfl⟩ (fun r9 hr9 => ?_)
                    subst hr9
                    refine W.eq (g2 := F0 m 430 ls [.int (nI (lowN w 99)), .int 1, .int (nI (chA N v)), .ref (q 0)]) rfl ?_
                    refine lv_iadd hx hb dL_change_430 ?_
                    refine W.eq (g2 := F0 m 431 ls [.int (nI (1 + (lowN w 99))), .int (nI (chA N v)), .ref (q 0)]) (congrArg (fun z9 => F0 m 431 ls (.int z9 :: [.int (nI (chA N v)), .ref (q 0)])) (nI_add 1 _)) ?_
                    refine wn_V S hkx hth (nX5_extend l hl0 (sa := sa) (A9 := A) (h9 := (fun q h => hA q (Nat.le_trans hS.1 h))) (hP := hP) (hD := hD.weaken (fun _ _ _ _ => trivial)) (hwf := hwf) (hsc := (by omega)) (hv := (chA_lt (by omega))) (ht1 := (by omega)) (ht := (by omega)) (h9d := (ex_rng hwf (chA_lt (by omega)) (by assumption) (by omega))) (v := (chA N v)) (t := (1 + (lowN w 99)))) gL_change_X5_extend rfl idX5_extend ⟨Nat.le_of_ble_eq_true rfl, Nat.le_of_ble_eq_true rfl⟩ hP 0 rfl rfl rfl rfl hl.1 rfl (Nat.le_of_ble_eq_true rfl) dL_change_431 ⟨Nat.le_of_ble_eq_true rfl, Nat.le_of_ble_eq_true rfl⟩ hS (fr_in hD (fun q h => hA q (Nat.le_trans hS.1 h))) (fun v9 H locs hp9 hz1 hk1 hS => ?_)
                    obtain ⟨rfl, hP⟩ := hp9
                    have hP : va_P G vwCl (wMain T q a N (vExt Z (chA N v) (nI (1 + (lowN w 99)))) (svB sc b) (psh sc M N) (psh sc Y Z) (svC sc) tx L cu er le nb nc) H := hP
                    have hD : va_D A (wMain T q a N (vExt Z (chA N v) (nI (1 + (lowN w 99)))) (svB sc b) (psh sc M N) (psh sc Y Z) (svC sc) tx L cu er le nb nc) := D_perm hD sv_addr
                    have hth := hth0.kept hS.2.1
                    refine W.eq (g2 := F0 m 434 ls [.int (vExt Z (chA N v) (nI (1 + (lowN w 99))) 2 (chA N v))]) rfl ?_
                    refine lv_goto (tgt := 438) hx hb dL_change_434 (by decide) ?_
                    have hv9 : chg N Z v w = ((vExt Z (chA N v) (nI (1 + (lowN w 99))) 2 (chA N v)), N, (vExt Z (chA N v) (nI (1 + (lowN w 99))))) := by rw [hg]; unfold ch8; rw [if_pos (by first | assumption | omega | exact ⟨by first | assumption | omega, by first | assumption | omega⟩ | exact ⟨by first | assumption | omega, by first | assumption | omega, by first | assumption | omega⟩)]
                    exact hret _ H _ _ _ _ _ (show some (Value.int (vExt Z (chA N v) (nI (1 + (lowN w 99))) 2 (chA N v))) = some (Value.int ((chg N Z v w).1)) ∧ wst G T q a (chg N Z v w).2.1 (chg N Z v w).2.2 b tx L cu er le nb nc H from ⟨by rw [hv9], by rw [hv9]; exact wst_sv hsc hP⟩) rfl hS (Nat.le_of_ble_eq_true rfl) (Nat.le_of_ble_eq_true rfl) dL_change_438
              · refine lv_tableIn (off := 347) (tgt := 439) hx hb dL_change_92 (by decide) (by decide) rfl (by decide) ?_
                have hg : chg N Z v w = ch9 N Z v w := by unfold chg; rw [hcz]; rfl
                refine lv_iload_n hx hb dL_change_439 rfl (lv_at hl 4 rfl) ?_
                refine lv_sipush (v := 600) hx hb dL_change_440 (by decide) ?_
                refine ro_S S hkx (mL_low l (v := w) (k := 600) (h0 := (by omega)) (hk := (by omega))) gL_change_L_low rfl idL_low.2 ⟨Nat.le_of_ble_eq_true rfl, Nat.le_of_ble_eq_true rfl⟩ rfl hl.1 rfl (Nat.le_of_ble_eq_true rfl) dL_change_443 ⟨Nat.le_of_ble_eq_true rfl, Nat.le_of_ble_eq_true rfl⟩ (fun r9 hr9 => ?_)
                subst hr9
                refine W.eq (g2 := F0 m 446 ls [.int (nI (lowN w 600))]) rfl ?_
                refine lv_istore (lv' := [(10, .int (nI (lowN w 600))), (9, .int (nI (lowN w 200))), (8, .int (nI (chF N v))), (0, .ref (q 0)), (1, .int v), (2, .int w), (3, .int (nI (N 0))), (4, .int (nI (N 1))), (5, .int (nI (N 2))), (6, .int (nI (chU N v))), (7, .int (nI (chA N v)))]) hx hb dL_change_446 hl (by decide) rfl (fun ls hl => ?_)
                refine lv_iload_n hx hb dL_change_448 rfl (lv_at hl 6 rfl) ?_
                refine lv_if_le (tgt := 506) hx hb dL_change_449 (by decide) (fun c_130 => ?_) (fun c_130 => ?_)
                · replace c_130 := cn_le (a := (N 0)) (b := 0) (by omega) (by omega) c_130
                  refine lv_iconst (v := 0) hx hb dL_change_506 (by decide) ?_
                  have hv9 : chg N Z v w = (0, N, Z) := by rw [hg]; unfold ch9; rw [if_neg (by first | assumption | omega | exact (fun q9 => by first | omega | exact absurd q9.2 (by assumption) | exact absurd q9.2.1 (by assumption) | exact absurd q9.2.2 (by assumption)))]
                  exact hret _ H _ _ _ _ _ (show some (Value.int 0) = some (Value.int ((chg N Z v w).1)) ∧ wst G T q a (chg N Z v w).2.1 (chg N Z v w).2.2 b tx L cu er le nb nc H from ⟨by rw [hv9], by rw [hv9]; exact wst_id hsc hP⟩) rfl hS (Nat.le_of_ble_eq_true rfl) (Nat.le_of_ble_eq_true rfl) dL_change_507
                · replace c_130 := cn_nle (a := (N 0)) (b := 0) (by omega) (by omega) c_130
                  refine lv_iload hx hb dL_change_452 (lv_at hl 7 rfl) ?_
                  refine lv_if_le (tgt := 506) hx hb dL_change_454 (by decide) (fun c_131 => ?_) (fun c_131 => ?_)
                  · replace c_131 := cn_le (a := (N 1)) (b := 0) (by omega) (by omega) c_131
                    refine lv_iconst (v := 0) hx hb dL_change_506 (by decide) ?_
                    have hv9 : chg N Z v w = (0, N, Z) := by rw [hg]; unfold ch9; rw [if_neg (by first | assumption | omega | exact (fun q9 => by first | omega | exact absurd q9.2 (by assumption) | exact absurd q9.2.1 (by assumption) | exact absurd q9.2.2 (by assumption)))]
                    exact hret _ H _ _ _ _ _ (show some (Value.int 0) = some (Value.int ((chg N Z v w).1)) ∧ wst G T q a (chg N Z v w).2.1 (chg N Z v w).2.2 b tx L cu er le nb nc H from ⟨by rw [hv9], by rw [hv9]; exact wst_id hsc hP⟩) rfl hS (Nat.le_of_ble_eq_true rfl) (Nat.le_of_ble_eq_true rfl) dL_change_507
                  · replace c_131 := cn_nle (a := (N 1)) (b := 0) (by omega) (by omega) c_131
                    refine lv_aload_n hx hb dL_change_457 rfl (lv_at hl 3 rfl) ?_
                    refine lv_iconst (v := 3) hx hb dL_change_458 (by decide) ?_
                    refine rn_V S hkx hth (nX5_value l hl0 (sa := sa) (h9 := (fun q h => hA q (Nat.le_trans hS.1 h))) (hP := hP) (hwf := hwf) (hw := (by omega)) (w := 3)) gL_change_X5_value rfl idX5_value ⟨Nat.le_of_ble_eq_true rfl, Nat.le_of_ble_eq_true rfl⟩ hP 0 rfl rfl rfl rfl hl.1 rfl (Nat.le_of_ble_eq_true rfl) dL_change_459 ⟨Nat.le_of_ble_eq_true rfl, Nat.le_of_ble_eq_true rfl⟩ (fun v9 hv9 => ?_)
                    subst hv9
                    refine W.eq (g2 := F0 m 462 ls [.int (nI (N 3))]) rfl ?_
                    refine lv_bipush (v := 6) hx hb dL_change_462 (by decide) ?_
                    refine lv_icmp_ge (tgt := 506) hx hb dL_change_464 (by decide) (fun c_132 => ?_) (fun c_132 => ?_)
                    · replace c_132 := cn_le (a := 6) (b := (N 3)) (by omega) (by omega) c_132
                      refine lv_iconst (v := 0) hx hb dL_change_506 (by decide) ?_
                      have hv9 : chg N Z v w = (0, N, Z) := by rw [hg]; unfold ch9; rw [if_neg (by first | assumption | omega | exact (fun q9 => by first | omega | exact absurd q9.2 (by assumption) | exact absurd q9.2.1 (by assumption) | exact absurd q9.2.2 (by assumption)))]
                      exact hret _ H _ _ _ _ _ (show some (Value.int 0) = some (Value.int ((chg N Z v w).1)) ∧ wst G T q a (chg N Z v w).2.1 (chg N Z v w).2.2 b tx L cu er le nb nc H from ⟨by rw [hv9], by rw [hv9]; exact wst_id hsc hP⟩) rfl hS (Nat.le_of_ble_eq_true rfl) (Nat.le_of_ble_eq_true rfl) dL_change_507
                    · replace c_132 := cn_nle (a := 6) (b := (N 3)) (by omega) (by omega) c_132
                      refine lv_aload_n hx hb dL_change_467 rfl (lv_at hl 3 rfl) ?_
                      refine lv_iload hx hb dL_change_468 (lv_at hl 2 rfl) ?_
                      refine lv_iload hx hb dL_change_470 (lv_at hl 10 rfl) ?_
                      refine lv_iload hx hb dL_change_472 (lv_at hl 0 rfl) ?_
                      refine lv_iload hx hb dL_change_474 (lv_at hl 0 rfl) ?_
                      refine lv_iload_n hx hb dL_change_476 rfl (lv_at hl 5 rfl) ?_
                      refine lv_bipush (v := 10) hx hb dL_change_477 (by decide) ?_
                      refine lv_ishr hx hb dL_change_479 ?_
                      refine lv_sipush (v := 1000) hx hb dL_change_480 (by decide) ?_
                      refine lv_iload hx hb dL_change_483 (lv_at hl 0 rfl) ?_
                      refine lv_isub hx hb dL_change_485 ?_
                      refine W.eq (g2 := F0 m 486 ls [.int (nI (1000 - (lowN w 600))), .int (w >>> (10 &&& 31)), .int (nI (lowN w 600)), .int (nI (lowN w 600)), .int (nI (chA N v)), .int (nI (chF N v)), .ref (q 0)]) (congrArg (fun z9 => F0 m 486 ls (.int z9 :: [.int (w >>> (10 &&& 31)), .int (nI (lowN w 600)), .int (nI (lowN w 600)), .int (nI (chA N v)), .int (nI (chF N v)), .ref (q 0)])) (pk_sub (a := 1000) (b := (lowN w 600)) (by omega))) ?_
                      refine ro_S S hkx (mL_low l (v := (w >>> (10 &&& 31))) (k := (1000 - (lowN w 600))) (h0 := (by omega)) (hk := (by omega))) gL_change_L_low rfl idL_low.2 ⟨Nat.le_of_ble_eq_true rfl, Nat.le_of_ble_eq_true rfl⟩ rfl hl.1 rfl (Nat.le_of_ble_eq_true rfl) dL_change_486 ⟨Nat.le_of_ble_eq_true rfl, Nat.le_of_ble_eq_true rfl⟩ (fun r9 hr9 => ?_)
                      subst hr9
                      refine W.eq (g2 := F0 m 489 ls [.int (nI (lowN (w >>> (10 &&& 31)) (1000 - (lowN w 600)))), .int (nI (lowN w 600)), .int (nI (lowN w 600)), .int (nI (chA N v)), .int (nI (chF N v)), .ref (q 0)]) rfl ?_
                      refine lv_iadd hx hb dL_change_489 ?_
                      refine W.eq (g2 := F0 m 490 ls [.int (nI ((lowN w 600) + (lowN (w >>> (10 &&& 31)) (1000 - (lowN w 600))))), .int (nI (lowN w 600)), .int (nI (chA N v)), .int (nI (chF N v)), .ref (q 0)]) (congrArg (fun z9 => F0 m 490 ls (.int z9 :: [.int (nI (lowN w 600)), .int (nI (chA N v)), .int (nI (chF N v)), .ref (q 0)])) (nI_add _ _)) ?_
                      refine lv_iconst (v := 1) hx hb dL_change_490 (by decide) ?_
                      refine lv_iload_n hx hb dL_change_491 rfl (lv_at hl 5 rfl) ?_
                      refine lv_iconst (v := 4) hx hb dL_change_492 (by decide) ?_
                      refine lv_ishr hx hb dL_change_493 ?_
                      refine lv_bipush (v := 99) hx hb dL_change_494 (by decide) ?_
                      refine ro_S S hkx (mL_low l (v := (w >>> (4 &&& 31))) (k := 99) (h0 := (by omega)) (hk := (by omega))) gL_change_L_low rfl idL_low.2 ⟨Nat.le_of_ble_eq_true rfl, Nat.le_of_ble_eq_true rfl⟩ rfl hl.1 rfl (Nat.le_of_ble_eq_true rfl) dL_change_496 ⟨Nat.le_of_ble_eq_true rfl, Nat.le_of_ble_eq_true rfl⟩ (fun r9 hr9 => ?_)
                      subst hr9
                      refine W.eq (g2 := F0 m 499 ls [.int (nI (lowN (w >>> (4 &&& 31)) 99)), .int 1, .int (nI ((lowN w 600) + (lowN (w >>> (10 &&& 31)) (1000 - (lowN w 600))))), .int (nI (lowN w 600)), .int (nI (chA N v)), .int (nI (chF N v)), .ref (q 0)]) rfl ?_
                      refine lv_iadd hx hb dL_change_499 ?_
                      refine W.eq (g2 := F0 m 500 ls [.int (nI (1 + (lowN (w >>> (4 &&& 31)) 99))), .int (nI ((lowN w 600) + (lowN (w >>> (10 &&& 31)) (1000 - (lowN w 600))))), .int (nI (lowN w 600)), .int (nI (chA N v)), .int (nI (chF N v)), .ref (q 0)]) (congrArg (fun z9 => F0 m 500 ls (.int z9 :: [.int (nI ((lowN w 600) + (lowN (w >>> (10 &&& 31)) (1000 - (lowN w 600))))), .int (nI (lowN w 600)), .int (nI (chA N v)), .int (nI (chF N v)), .ref (q 0)])) (nI_add 1 _)) ?_
                      refine wn_V S hkx hth (nX5_addShim l hl0 (sa := sa) (A9 := A) (h9 := (fun q h => hA q (Nat.le_trans hS.1 h))) (hP := hP) (hD := hD.weaken (fun _ _ _ _ => trivial)) (hwf := hwf) (hsc := (by omega)) (hf := (chF_lt (by omega))) (hv := (chA_lt (by omega))) (hx := (by omega)) (hz := (by omega)) (hy1 := (by omega)) (hy := (by omega)) (h8 := (by omega)) (f := (chF N v)) (v := (chA N v)) (x := (lowN w 600)) (z := ((lowN w 600) + (lowN (w >>> (10 &&& 31)) (1000 - (lowN w 600))))) (y := (1 + (lowN (w >>> (4 &&& 31)) 99)))) gL_change_X5_addShim rfl idX5_addShim ⟨Nat.le_of_ble_eq_true rfl, Nat.le_of_ble_eq_true rfl⟩ hP 0 rfl rfl rfl rfl hl.1 rfl (Nat.le_of_ble_eq_true rfl) dL_change_500 ⟨Nat.le_of_ble_eq_true rfl, Nat.le_of_ble_eq_true rfl⟩ hS (fr_in hD (fun q h => hA q (Nat.le_trans hS.1 h))) (fun v9 H locs hp9 hz1 hk1 hS => ?_)
                      obtain ⟨rfl, hP⟩ := hp9
                      have hP : va_P G vwCl (wMain T q a (va_up N 3 (N 3 + 1)) (sAdd N Z (nI (chF N v)) (nI (chA N v)) (nI (lowN w 600)) (nI ((lowN w 600) + (lowN (w >>> (10 &&& 31)) (1000 - (lowN w 600))))) (nI (1 + (lowN (w >>> (4 &&& 31)) 99)))) (svB sc b) (psh sc M N) (psh sc Y Z) (svC sc) tx L cu er le nb nc) H := hP
                      have hD : va_D A (wMain T q a (va_up N 3 (N 3 + 1)) (sAdd N Z (nI (chF N v)) (nI (chA N v)) (nI (lowN w 600)) (nI ((lowN w 600) + (lowN (w >>> (10 &&& 31)) (1000 - (lowN w 600))))) (nI (1 + (lowN (w >>> (4 &&& 31)) 99)))) (svB sc b) (psh sc M N) (psh sc Y Z) (svC sc) tx L cu er le nb nc) := D_perm hD sv_addr
                      have hth := hth0.kept hS.2.1
                      refine W.eq (g2 := F0 m 503 ls [.int (nI (N 3))]) rfl ?_
                      refine lv_goto (tgt := 507) hx hb dL_change_503 (by decide) ?_
                      have hv9 : chg N Z v w = ((nI (N 3)), (va_up N 3 (N 3 + 1)), (sAdd N Z (nI (chF N v)) (nI (chA N v)) (nI (lowN w 600)) (nI ((lowN w 600) + (lowN (w >>> (10 &&& 31)) (1000 - (lowN w 600))))) (nI (1 + (lowN (w >>> (4 &&& 31)) 99))))) := by rw [hg]; unfold ch9; rw [if_pos (by first | assumption | omega | exact ⟨by first | assumption | omega, by first | assumption | omega⟩ | exact ⟨by first | assumption | omega, by first | assumption | omega, by first | assumption | omega⟩)]
                      exact hret _ H _ _ _ _ _ (show some (Value.int (nI (N 3))) = some (Value.int ((chg N Z v w).1)) ∧ wst G T q a (chg N Z v w).2.1 (chg N Z v w).2.2 b tx L cu er le nb nc H from ⟨by rw [hv9], by rw [hv9]; exact wst_sv hsc hP⟩) rfl hS (Nat.le_of_ble_eq_true rfl) (Nat.le_of_ble_eq_true rfl) dL_change_507
              · refine lv_tableIn (off := 347) (tgt := 439) hx hb dL_change_92 (by decide) (by decide) rfl (by decide) ?_
                have hg : chg N Z v w = ch9 N Z v w := by unfold chg; rw [hcz]; rfl
                refine lv_iload_n hx hb dL_change_439 rfl (lv_at hl 4 rfl) ?_
                refine lv_sipush (v := 600) hx hb dL_change_440 (by decide) ?_
                refine ro_S S hkx (mL_low l (v := w) (k := 600) (h0 := (by omega)) (hk := (by omega))) gL_change_L_low rfl idL_low.2 ⟨Nat.le_of_ble_eq_true rfl, Nat.le_of_ble_eq_true rfl⟩ rfl hl.1 rfl (Nat.le_of_ble_eq_true rfl) dL_change_443 ⟨Nat.le_of_ble_eq_true rfl, Nat.le_of_ble_eq_true rfl⟩ (fun r9 hr9 => ?_)
                subst hr9
                refine W.eq (g2 := F0 m 446 ls [.int (nI (lowN w 600))]) rfl ?_
                refine lv_istore (lv' := [(10, .int (nI (lowN w 600))), (9, .int (nI (lowN w 200))), (8, .int (nI (chF N v))), (0, .ref (q 0)), (1, .int v), (2, .int w), (3, .int (nI (N 0))), (4, .int (nI (N 1))), (5, .int (nI (N 2))), (6, .int (nI (chU N v))), (7, .int (nI (chA N v)))]) hx hb dL_change_446 hl (by decide) rfl (fun ls hl => ?_)
                refine lv_iload_n hx hb dL_change_448 rfl (lv_at hl 6 rfl) ?_
                refine lv_if_le (tgt := 506) hx hb dL_change_449 (by decide) (fun c_133 => ?_) (fun c_133 => ?_)
                · replace c_133 := cn_le (a := (N 0)) (b := 0) (by omega) (by omega) c_133
                  refine lv_iconst (v := 0) hx hb dL_change_506 (by decide) ?_
                  have hv9 : chg N Z v w = (0, N, Z) := by rw [hg]; unfold ch9; rw [if_neg (by first | assumption | omega | exact (fun q9 => by first | omega | exact absurd q9.2 (by assumption) | exact absurd q9.2.1 (by assumption) | exact absurd q9.2.2 (by assumption)))]
                  exact hret _ H _ _ _ _ _ (show some (Value.int 0) = some (Value.int ((chg N Z v w).1)) ∧ wst G T q a (chg N Z v w).2.1 (chg N Z v w).2.2 b tx L cu er le nb nc H from ⟨by rw [hv9], by rw [hv9]; exact wst_id hsc hP⟩) rfl hS (Nat.le_of_ble_eq_true rfl) (Nat.le_of_ble_eq_true rfl) dL_change_507
                · replace c_133 := cn_nle (a := (N 0)) (b := 0) (by omega) (by omega) c_133
                  refine lv_iload hx hb dL_change_452 (lv_at hl 7 rfl) ?_
                  refine lv_if_le (tgt := 506) hx hb dL_change_454 (by decide) (fun c_134 => ?_) (fun c_134 => ?_)
                  · replace c_134 := cn_le (a := (N 1)) (b := 0) (by omega) (by omega) c_134
                    refine lv_iconst (v := 0) hx hb dL_change_506 (by decide) ?_
                    have hv9 : chg N Z v w = (0, N, Z) := by rw [hg]; unfold ch9; rw [if_neg (by first | assumption | omega | exact (fun q9 => by first | omega | exact absurd q9.2 (by assumption) | exact absurd q9.2.1 (by assumption) | exact absurd q9.2.2 (by assumption)))]
                    exact hret _ H _ _ _ _ _ (show some (Value.int 0) = some (Value.int ((chg N Z v w).1)) ∧ wst G T q a (chg N Z v w).2.1 (chg N Z v w).2.2 b tx L cu er le nb nc H from ⟨by rw [hv9], by rw [hv9]; exact wst_id hsc hP⟩) rfl hS (Nat.le_of_ble_eq_true rfl) (Nat.le_of_ble_eq_true rfl) dL_change_507
                  · replace c_134 := cn_nle (a := (N 1)) (b := 0) (by omega) (by omega) c_134
                    refine lv_aload_n hx hb dL_change_457 rfl (lv_at hl 3 rfl) ?_
                    refine lv_iconst (v := 3) hx hb dL_change_458 (by decide) ?_
                    refine rn_V S hkx hth (nX5_value l hl0 (sa := sa) (h9 := (fun q h => hA q (Nat.le_trans hS.1 h))) (hP := hP) (hwf := hwf) (hw := (by omega)) (w := 3)) gL_change_X5_value rfl idX5_value ⟨Nat.le_of_ble_eq_true rfl, Nat.le_of_ble_eq_true rfl⟩ hP 0 rfl rfl rfl rfl hl.1 rfl (Nat.le_of_ble_eq_true rfl) dL_change_459 ⟨Nat.le_of_ble_eq_true rfl, Nat.le_of_ble_eq_true rfl⟩ (fun v9 hv9 => ?_)
                    subst hv9
                    refine W.eq (g2 := F0 m 462 ls [.int (nI (N 3))]) rfl ?_
                    refine lv_bipush (v := 6) hx hb dL_change_462 (by decide) ?_
                    refine lv_icmp_ge (tgt := 506) hx hb dL_change_464 (by decide) (fun c_135 => ?_) (fun c_135 => ?_)
                    · replace c_135 := cn_le (a := 6) (b := (N 3)) (by omega) (by omega) c_135
                      refine lv_iconst (v := 0) hx hb dL_change_506 (by decide) ?_
                      have hv9 : chg N Z v w = (0, N, Z) := by rw [hg]; unfold ch9; rw [if_neg (by first | assumption | omega | exact (fun q9 => by first | omega | exact absurd q9.2 (by assumption) | exact absurd q9.2.1 (by assumption) | exact absurd q9.2.2 (by assumption)))]
                      exact hret _ H _ _ _ _ _ (show some (Value.int 0) = some (Value.int ((chg N Z v w).1)) ∧ wst G T q a (chg N Z v w).2.1 (chg N Z v w).2.2 b tx L cu er le nb nc H from ⟨by rw [hv9], by rw [hv9]; exact wst_id hsc hP⟩) rfl hS (Nat.le_of_ble_eq_true rfl) (Nat.le_of_ble_eq_true rfl) dL_change_507
                    · replace c_135 := cn_nle (a := 6) (b := (N 3)) (by omega) (by omega) c_135
                      refine lv_aload_n hx hb dL_change_467 rfl (lv_at hl 3 rfl) ?_
                      refine lv_iload hx hb dL_change_468 (lv_at hl 2 rfl) ?_
                      refine lv_iload hx hb dL_change_470 (lv_at hl 10 rfl) ?_
                      refine lv_iload hx hb dL_change_472 (lv_at hl 0 rfl) ?_
                      refine lv_iload hx hb dL_change_474 (lv_at hl 0 rfl) ?_
                      refine lv_iload_n hx hb dL_change_476 rfl (lv_at hl 5 rfl) ?_
                      refine lv_bipush (v := 10) hx hb dL_change_477 (by decide) ?_
                      refine lv_ishr hx hb dL_change_479 ?_
                      refine lv_sipush (v := 1000) hx hb dL_change_480 (by decide) ?_
                      refine lv_iload hx hb dL_change_483 (lv_at hl 0 rfl) ?_
                      refine lv_isub hx hb dL_change_485 ?_
                      refine W.eq (g2 := F0 m 486 ls [.int (nI (1000 - (lowN w 600))), .int (w >>> (10 &&& 31)), .int (nI (lowN w 600)), .int (nI (lowN w 600)), .int (nI (chA N v)), .int (nI (chF N v)), .ref (q 0)]) (congrArg (fun z9 => F0 m 486 ls (.int z9 :: [.int (w >>> (10 &&& 31)), .int (nI (lowN w 600)), .int (nI (lowN w 600)), .int (nI (chA N v)), .int (nI (chF N v)), .ref (q 0)])) (pk_sub (a := 1000) (b := (lowN w 600)) (by omega))) ?_
                      refine ro_S S hkx (mL_low l (v := (w >>> (10 &&& 31))) (k := (1000 - (lowN w 600))) (h0 := (by omega)) (hk := (by omega))) gL_change_L_low rfl idL_low.2 ⟨Nat.le_of_ble_eq_true rfl, Nat.le_of_ble_eq_true rfl⟩ rfl hl.1 rfl (Nat.le_of_ble_eq_true rfl) dL_change_486 ⟨Nat.le_of_ble_eq_true rfl, Nat.le_of_ble_eq_true rfl⟩ (fun r9 hr9 => ?_)
                      subst hr9
                      refine W.eq (g2 := F0 m 489 ls [.int (nI (lowN (w >>> (10 &&& 31)) (1000 - (lowN w 600)))), .int (nI (lowN w 600)), .int (nI (lowN w 600)), .int (nI (chA N v)), .int (nI (chF N v)), .ref (q 0)]) rfl ?_
                      refine lv_iadd hx hb dL_change_489 ?_
                      refine W.eq (g2 := F0 m 490 ls [.int (nI ((lowN w 600) + (lowN (w >>> (10 &&& 31)) (1000 - (lowN w 600))))), .int (nI (lowN w 600)), .int (nI (chA N v)), .int (nI (chF N v)), .ref (q 0)]) (congrArg (fun z9 => F0 m 490 ls (.int z9 :: [.int (nI (lowN w 600)), .int (nI (chA N v)), .int (nI (chF N v)), .ref (q 0)])) (nI_add _ _)) ?_
                      refine lv_iconst (v := 1) hx hb dL_change_490 (by decide) ?_
                      refine lv_iload_n hx hb dL_change_491 rfl (lv_at hl 5 rfl) ?_
                      refine lv_iconst (v := 4) hx hb dL_change_492 (by decide) ?_
                      refine lv_ishr hx hb dL_change_493 ?_
                      refine lv_bipush (v := 99) hx hb dL_change_494 (by decide) ?_
                      refine ro_S S hkx (mL_low l (v := (w >>> (4 &&& 31))) (k := 99) (h0 := (by omega)) (hk := (by omega))) gL_change_L_low rfl idL_low.2 ⟨Nat.le_of_ble_eq_true rfl, Nat.le_of_ble_eq_true rfl⟩ rfl hl.1 rfl (Nat.le_of_ble_eq_true rfl) dL_change_496 ⟨Nat.le_of_ble_eq_true rfl, Nat.le_of_ble_eq_true rfl⟩ (fun r9 hr9 => ?_)
                      subst hr9
                      refine W.eq (g2 := F0 m 499 ls [.int (nI (lowN (w >>> (4 &&& 31)) 99)), .int 1, .int (nI ((lowN w 600) + (lowN (w >>> (10 &&& 31)) (1000 - (lowN w 600))))), .int (nI (lowN w 600)), .int (nI (chA N v)), .int (nI (chF N v)), .ref (q 0)]) rfl ?_
                      refine lv_iadd hx hb dL_change_499 ?_
                      refine W.eq (g2 := F0 m 500 ls [.int (nI (1 + (lowN (w >>> (4 &&& 31)) 99))), .int (nI ((lowN w 600) + (lowN (w >>> (10 &&& 31)) (1000 - (lowN w 600))))), .int (nI (lowN w 600)), .int (nI (chA N v)), .int (nI (chF N v)), .ref (q 0)]) (congrArg (fun z9 => F0 m 500 ls (.int z9 :: [.int (nI ((lowN w 600) + (lowN (w >>> (10 &&& 31)) (1000 - (lowN w 600))))), .int (nI (lowN w 600)), .int (nI (chA N v)), .int (nI (chF N v)), .ref (q 0)])) (nI_add 1 _)) ?_
                      refine wn_V S hkx hth (nX5_addShim l hl0 (sa := sa) (A9 := A) (h9 := (fun q h => hA q (Nat.le_trans hS.1 h))) (hP := hP) (hD := hD.weaken (fun _ _ _ _ => trivial)) (hwf := hwf) (hsc := (by omega)) (hf := (chF_lt (by omega))) (hv := (chA_lt (by omega))) (hx := (by omega)) (hz := (by omega)) (hy1 := (by omega)) (hy := (by omega)) (h8 := (by omega)) (f := (chF N v)) (v := (chA N v)) (x := (lowN w 600)) (z := ((lowN w 600) + (lowN (w >>> (10 &&& 31)) (1000 - (lowN w 600))))) (y := (1 + (lowN (w >>> (4 &&& 31)) 99)))) gL_change_X5_addShim rfl idX5_addShim ⟨Nat.le_of_ble_eq_true rfl, Nat.le_of_ble_eq_true rfl⟩ hP 0 rfl rfl rfl rfl hl.1 rfl (Nat.le_of_ble_eq_true rfl) dL_change_500 ⟨Nat.le_of_ble_eq_true rfl, Nat.le_of_ble_eq_true rfl⟩ hS (fr_in hD (fun q h => hA q (Nat.le_trans hS.1 h))) (fun v9 H locs hp9 hz1 hk1 hS => ?_)
                      obtain ⟨rfl, hP⟩ := hp9
                      have hP : va_P G vwCl (wMain T q a (va_up N 3 (N 3 + 1)) (sAdd N Z (nI (chF N v)) (nI (chA N v)) (nI (lowN w 600)) (nI ((lowN w 600) + (lowN (w >>> (10 &&& 31)) (1000 - (lowN w 600))))) (nI (1 + (lowN (w >>> (4 &&& 31)) 99)))) (svB sc b) (psh sc M N) (psh sc Y Z) (svC sc) tx L cu er le nb nc) H := hP
                      have hD : va_D A (wMain T q a (va_up N 3 (N 3 + 1)) (sAdd N Z (nI (chF N v)) (nI (chA N v)) (nI (lowN w 600)) (nI ((lowN w 600) + (lowN (w >>> (10 &&& 31)) (1000 - (lowN w 600))))) (nI (1 + (lowN (w >>> (4 &&& 31)) 99)))) (svB sc b) (psh sc M N) (psh sc Y Z) (svC sc) tx L cu er le nb nc) := D_perm hD sv_addr
                      have hth := hth0.kept hS.2.1
                      refine W.eq (g2 := F0 m 503 ls [.int (nI (N 3))]) rfl ?_
                      refine lv_goto (tgt := 507) hx hb dL_change_503 (by decide) ?_
                      have hv9 : chg N Z v w = ((nI (N 3)), (va_up N 3 (N 3 + 1)), (sAdd N Z (nI (chF N v)) (nI (chA N v)) (nI (lowN w 600)) (nI ((lowN w 600) + (lowN (w >>> (10 &&& 31)) (1000 - (lowN w 600))))) (nI (1 + (lowN (w >>> (4 &&& 31)) 99))))) := by rw [hg]; unfold ch9; rw [if_pos (by first | assumption | omega | exact ⟨by first | assumption | omega, by first | assumption | omega⟩ | exact ⟨by first | assumption | omega, by first | assumption | omega, by first | assumption | omega⟩)]
                      exact hret _ H _ _ _ _ _ (show some (Value.int (nI (N 3))) = some (Value.int ((chg N Z v w).1)) ∧ wst G T q a (chg N Z v w).2.1 (chg N Z v w).2.2 b tx L cu er le nb nc H from ⟨by rw [hv9], by rw [hv9]; exact wst_sv hsc hP⟩) rfl hS (Nat.le_of_ble_eq_true rfl) (Nat.le_of_ble_eq_true rfl) dL_change_507
              · refine lv_tableOut (tgt := 508) hx hb dL_change_92 (Or.inr (by decide)) (by decide) ?_
                have hg : chg N Z v w = chB N Z w := by unfold chg; rw [hcz]; rfl
                refine lv_aload_n hx hb dL_change_508 rfl (lv_at hl 2 rfl) ?_
                refine lv_iconst (v := 3) hx hb dL_change_509 (by decide) ?_
                refine rn_V S hkx hth (nX5_value l hl0 (sa := sa) (h9 := (fun q h => hA q (Nat.le_trans hS.1 h))) (hP := hP) (hwf := hwf) (hw := (by omega)) (w := 3)) gL_change_X5_value rfl idX5_value ⟨Nat.le_of_ble_eq_true rfl, Nat.le_of_ble_eq_true rfl⟩ hP 0 rfl rfl rfl rfl hl.1 rfl (Nat.le_of_ble_eq_true rfl) dL_change_510 ⟨Nat.le_of_ble_eq_true rfl, Nat.le_of_ble_eq_true rfl⟩ (fun v9 hv9 => ?_)
                subst hv9
                refine W.eq (g2 := F0 m 513 ls [.int (nI (N 3))]) rfl ?_
                refine lv_if_le (tgt := 532) hx hb dL_change_513 (by decide) (fun c_136 => ?_) (fun c_136 => ?_)
                · replace c_136 := cn_le (a := (N 3)) (b := 0) (by omega) (by omega) c_136
                  refine lv_iconst (v := 0) hx hb dL_change_532 (by decide) ?_
                  have hv9 : chg N Z v w = (0, N, Z) := by rw [hg]; unfold chB; rw [if_neg (by first | assumption | omega | exact (fun q9 => by first | omega | exact absurd q9.2 (by assumption) | exact absurd q9.2.1 (by assumption) | exact absurd q9.2.2 (by assumption)))]
                  exact hret _ H _ _ _ _ _ (show some (Value.int 0) = some (Value.int ((chg N Z v w).1)) ∧ wst G T q a (chg N Z v w).2.1 (chg N Z v w).2.2 b tx L cu er le nb nc H from ⟨by rw [hv9], by rw [hv9]; exact wst_id hsc hP⟩) rfl hS (Nat.le_of_ble_eq_true rfl) (Nat.le_of_ble_eq_true rfl) dL_change_533
                · replace c_136 := cn_nle (a := (N 3)) (b := 0) (by omega) (by omega) c_136
                  refine lv_aload_n hx hb dL_change_516 rfl (lv_at hl 2 rfl) ?_
                  refine lv_iload_n hx hb dL_change_517 rfl (lv_at hl 4 rfl) ?_
                  refine lv_aload_n hx hb dL_change_518 rfl (lv_at hl 2 rfl) ?_
                  refine lv_iconst (v := 3) hx hb dL_change_519 (by decide) ?_
                  refine rn_V S hkx hth (nX5_value l hl0 (sa := sa) (h9 := (fun q h => hA q (Nat.le_trans hS.1 h))) (hP := hP) (hwf := hwf) (hw := (by omega)) (w := 3)) gL_change_X5_value rfl idX5_value ⟨Nat.le_of_ble_eq_true rfl, Nat.le_of_ble_eq_true rfl⟩ hP 0 rfl rfl rfl rfl hl.1 rfl (Nat.le_of_ble_eq_true rfl) dL_change_520 ⟨Nat.le_of_ble_eq_true rfl, Nat.le_of_ble_eq_true rfl⟩ (fun v9 hv9 => ?_)
                  subst hv9
                  refine W.eq (g2 := F0 m 523 ls [.int (nI (N 3)), .int w, .ref (q 0)]) rfl ?_
                  refine ro_S S hkx (mL_low l (v := w) (k := (N 3)) (h0 := (by omega)) (hk := (by omega))) gL_change_L_low rfl idL_low.2 ⟨Nat.le_of_ble_eq_true rfl, Nat.le_of_ble_eq_true rfl⟩ rfl hl.1 rfl (Nat.le_of_ble_eq_true rfl) dL_change_523 ⟨Nat.le_of_ble_eq_true rfl, Nat.le_of_ble_eq_true rfl⟩ (fun r9 hr9 => ?_)
                  subst hr9
                  refine W.eq (g2 := F0 m 526 ls [.int (nI (lowN w (N 3))), .ref (q 0)]) rfl ?_
                  refine wn_V S hkx hth (nX5_dropShim l hl0 (sa := sa) (A9 := A) (h9 := (fun q h => hA q (Nat.le_trans hS.1 h))) (hP := hP) (hD := hD.weaken (fun _ _ _ _ => trivial)) (hwf := hwf) (hsc := (by omega)) (ht := (lowN_lt w (by omega))) (t := (lowN w (N 3)))) gL_change_X5_dropShim rfl idX5_dropShim ⟨Nat.le_of_ble_eq_true rfl, Nat.le_of_ble_eq_true rfl⟩ hP 0 rfl rfl rfl rfl hl.1 rfl (Nat.le_of_ble_eq_true rfl) dL_change_526 ⟨Nat.le_of_ble_eq_true rfl, Nat.le_of_ble_eq_true rfl⟩ hS (fr_in hD (fun q h => hA q (Nat.le_trans hS.1 h))) (fun v9 H locs hp9 hz1 hk1 hS => ?_)
                  obtain ⟨rfl, hP⟩ := hp9
                  have hP : va_P G vwCl (wMain T q a (va_up N 3 (N 3 - 1)) (sDel Z (lowN w (N 3)) (N 3 - 1)) (svB sc b) (psh sc M N) (psh sc Y Z) (svC sc) tx L cu er le nb nc) H := hP
                  have hD : va_D A (wMain T q a (va_up N 3 (N 3 - 1)) (sDel Z (lowN w (N 3)) (N 3 - 1)) (svB sc b) (psh sc M N) (psh sc Y Z) (svC sc) tx L cu er le nb nc) := D_perm hD sv_addr
                  have hth := hth0.kept hS.2.1
                  refine W.eq (g2 := F0 m 529 ls [.int (nI (N 3 - 1))]) rfl ?_
                  refine lv_goto (tgt := 533) hx hb dL_change_529 (by decide) ?_
                  have hv9 : chg N Z v w = ((nI (N 3 - 1)), (va_up N 3 (N 3 - 1)), (sDel Z (lowN w (N 3)) (N 3 - 1))) := by rw [hg]; unfold chB; rw [if_pos (by first | assumption | omega | exact ⟨by first | assumption | omega, by first | assumption | omega⟩ | exact ⟨by first | assumption | omega, by first | assumption | omega, by first | assumption | omega⟩)]
                  exact hret _ H _ _ _ _ _ (show some (Value.int (nI (N 3 - 1))) = some (Value.int ((chg N Z v w).1)) ∧ wst G T q a (chg N Z v w).2.1 (chg N Z v w).2.2 b tx L cu er le nb nc H from ⟨by rw [hv9], by rw [hv9]; exact wst_sv hsc hP⟩) rfl hS (Nat.le_of_ble_eq_true rfl) (Nat.le_of_ble_eq_true rfl) dL_change_533
            exact L75   _ _ hP hD hS _ (lv_sub hl [1, 2, 3, 4, 5, 6, 7, 0] rfl)
          · replace c_110 := cn_eq (a := (N 1)) (b := 0) (by omega) (by omega) c_110
            refine lv_iconst (v := 0) hx hb dL_change_62 (by decide) ?_
            refine lv_goto (tgt := 75) hx hb dL_change_63 (by decide) ?_
            refine W.eq (g2 := F0 m 75 ls [.int (nI (chF N v))]) (congrArg (fun z9 => F0 m 75 ls (.int z9 :: [])) (by unfold chF; rw [if_pos c_110]; rfl)) ?_
            have L75 :  ∀ (H : Heap) (locs : List Loc), va_P G vwCl (wMain T q a N Z b M Y sc tx L cu er le nb nc) H → va_D A (wMain T q a N Z b M Y sc tx L cu er le nb nc) → va_S A H0 H locs → ∀ ls : Array Slot, lv_has ls 11 [(0, .ref (q 0)), (1, .int v), (2, .int w), (3, .int (nI (N 0))), (4, .int (nI (N 1))), (5, .int (nI (N 2))), (6, .int (nI (chU N v))), (7, .int (nI (chA N v)))] → W p l e (rmx 9 180 3) s m ([.ref (q 0), .int v, .int w] : List Value).toArray below meth c H locs 0 0 Q (F0 m 75 ls [.int (nI (chF N v))]) := by
              intro   H locs hP hD hS ls hl
              have hth := hth0.kept hS.2.1
              refine lv_istore (lv' := [(8, .int (nI (chF N v))), (0, .ref (q 0)), (1, .int v), (2, .int w), (3, .int (nI (N 0))), (4, .int (nI (N 1))), (5, .int (nI (N 2))), (6, .int (nI (chU N v))), (7, .int (nI (chA N v)))]) hx hb dL_change_75 hl (by decide) rfl (fun ls hl => ?_)
              refine lv_iload_n hx hb dL_change_77 rfl (lv_at hl 3 rfl) ?_
              refine lv_sipush (v := 200) hx hb dL_change_78 (by decide) ?_
              refine ro_S S hkx (mL_low l (v := w) (k := 200) (h0 := (by omega)) (hk := (by omega))) gL_change_L_low rfl idL_low.2 ⟨Nat.le_of_ble_eq_true rfl, Nat.le_of_ble_eq_true rfl⟩ rfl hl.1 rfl (Nat.le_of_ble_eq_true rfl) dL_change_81 ⟨Nat.le_of_ble_eq_true rfl, Nat.le_of_ble_eq_true rfl⟩ (fun r9 hr9 => ?_)
              subst hr9
              refine W.eq (g2 := F0 m 84 ls [.int (nI (lowN w 200))]) rfl ?_
              refine lv_istore (lv' := [(9, .int (nI (lowN w 200))), (8, .int (nI (chF N v))), (0, .ref (q 0)), (1, .int v), (2, .int w), (3, .int (nI (N 0))), (4, .int (nI (N 1))), (5, .int (nI (N 2))), (6, .int (nI (chU N v))), (7, .int (nI (chA N v)))]) hx hb dL_change_84 hl (by decide) rfl (fun ls hl => ?_)
              refine lv_iload_n hx hb dL_change_86 rfl (lv_at hl 3 rfl) ?_
              refine lv_bipush (v := 12) hx hb dL_change_87 (by decide) ?_
              refine ro_S S hkx (mL_low l (v := v) (k := 12) (h0 := (by omega)) (hk := (by omega))) gL_change_L_low rfl idL_low.2 ⟨Nat.le_of_ble_eq_true rfl, Nat.le_of_ble_eq_true rfl⟩ rfl hl.1 rfl (Nat.le_of_ble_eq_true rfl) dL_change_89 ⟨Nat.le_of_ble_eq_true rfl, Nat.le_of_ble_eq_true rfl⟩ (fun r9 hr9 => ?_)
              subst hr9
              refine W.eq (g2 := F0 m 92 ls [.int (nI (lowN v 12))]) rfl ?_
              obtain ⟨cz, hcz⟩ : ∃ cz, lowN v 12 = cz := ⟨_, rfl⟩
              have hcz12 : cz < 12 := hcz ▸ lowN_lt v (by decide)
              refine W.eq (g2 := F0 m 92 ls [.int (nI cz)]) (congrArg (fun z9 => F0 m 92 ls (.int z9 :: [])) (congrArg nI hcz)) ?_
              rcases (show cz = 0 ∨ cz = 1 ∨ cz = 2 ∨ cz = 3 ∨ cz = 4 ∨ cz = 5 ∨ cz = 6 ∨ cz = 7 ∨ cz = 8 ∨ cz = 9 ∨ cz = 10 ∨ cz = 11 by omega) with rfl | rfl | rfl | rfl | rfl | rfl | rfl | rfl | rfl | rfl | rfl | rfl
              · refine lv_tableIn (off := 60) (tgt := 152) hx hb dL_change_92 (by decide) (by decide) rfl (by decide) ?_
                have hg : chg N Z v w = ch0 N Z w := by unfold chg; rw [hcz]; rfl
                refine lv_iload_n hx hb dL_change_152 rfl (lv_at hl 5 rfl) ?_
                refine lv_iconst (v := 5) hx hb dL_change_153 (by decide) ?_
                refine lv_icmp_ge (tgt := 184) hx hb dL_change_154 (by decide) (fun c_137 => ?_) (fun c_137 => ?_)
                · replace c_137 := cn_le (a := 5) (b := (N 0)) (by omega) (by omega) c_137
                  refine lv_aload_n hx hb dL_change_184 rfl (lv_at hl 2 rfl) ?_
                  refine lv_iconst (v := 4) hx hb dL_change_185 (by decide) ?_
                  refine rn_V S hkx hth (nX5_value l hl0 (sa := sa) (h9 := (fun q h => hA q (Nat.le_trans hS.1 h))) (hP := hP) (hwf := hwf) (hw := (by omega)) (w := 4)) gL_change_X5_value rfl idX5_value ⟨Nat.le_of_ble_eq_true rfl, Nat.le_of_ble_eq_true rfl⟩ hP 0 rfl rfl rfl rfl hl.1 rfl (Nat.le_of_ble_eq_true rfl) dL_change_186 ⟨Nat.le_of_ble_eq_true rfl, Nat.le_of_ble_eq_true rfl⟩ (fun v9 hv9 => ?_)
                  subst hv9
                  refine W.eq (g2 := F0 m 189 ls [.int (plC Z (N 2))]) rfl ?_
                  have hv9 : chg N Z v w = ((plC Z (N 2)), N, Z) := by rw [hg]; unfold ch0; rw [if_neg (by first | assumption | omega | exact (fun q9 => by first | omega | exact absurd q9.2 (by assumption) | exact absurd q9.2.1 (by assumption) | exact absurd q9.2.2 (by assumption)))]
                  exact hret _ H _ _ _ _ _ (show some (Value.int (plC Z (N 2))) = some (Value.int ((chg N Z v w).1)) ∧ wst G T q a (chg N Z v w).2.1 (chg N Z v w).2.2 b tx L cu er le nb nc H from ⟨by rw [hv9], by rw [hv9]; exact wst_id hsc hP⟩) rfl hS (Nat.le_of_ble_eq_true rfl) (Nat.le_of_ble_eq_true rfl) dL_change_189
                · replace c_137 := cn_nle (a := 5) (b := (N 0)) (by omega) (by omega) c_137
                  refine lv_aload_n hx hb dL_change_157 rfl (lv_at hl 2 rfl) ?_
                  refine lv_iload hx hb dL_change_158 (lv_at hl 0 rfl) ?_
                  refine lv_iload hx hb dL_change_160 (lv_at hl 0 rfl) ?_
                  refine lv_iconst (v := 1) hx hb dL_change_162 (by decide) ?_
                  refine lv_iadd hx hb dL_change_163 ?_
                  refine W.eq (g2 := F0 m 164 ls [.int (nI ((lowN w 200) + 1)), .int (nI (lowN w 200)), .ref (q 0)]) (congrArg (fun z9 => F0 m 164 ls (.int z9 :: [.int (nI (lowN w 200)), .ref (q 0)])) (nI_add _ 1)) ?_
                  refine lv_iload_n hx hb dL_change_164 rfl (lv_at hl 4 rfl) ?_
                  refine lv_bipush (v := 8) hx hb dL_change_165 (by decide) ?_
                  refine lv_ishr hx hb dL_change_167 ?_
                  refine lv_sipush (v := 1000) hx hb dL_change_168 (by decide) ?_
                  refine lv_iload hx hb dL_change_171 (lv_at hl 0 rfl) ?_
                  refine lv_isub hx hb dL_change_173 ?_
                  refine W.eq (g2 := F0 m 174 ls [.int (nI (1000 - (lowN w 200))), .int (w >>> (8 &&& 31)), .int (nI ((lowN w 200) + 1)), .int (nI (lowN w 200)), .ref (q 0)]) (congrArg (fun z9 => F0 m 174 ls (.int z9 :: [.int (w >>> (8 &&& 31)), .int (nI ((lowN w 200) + 1)), .int (nI (lowN w 200)), .ref (q 0)])) (pk_sub (a := 1000) (b := (lowN w 200)) (by omega))) ?_
                  refine ro_S S hkx (mL_low l (v := (w >>> (8 &&& 31))) (k := (1000 - (lowN w 200))) (h0 := (by omega)) (hk := (by omega))) gL_change_L_low rfl idL_low.2 ⟨Nat.le_of_ble_eq_true rfl, Nat.le_of_ble_eq_true rfl⟩ rfl hl.1 rfl (Nat.le_of_ble_eq_true rfl) dL_change_174 ⟨Nat.le_of_ble_eq_true rfl, Nat.le_of_ble_eq_true rfl⟩ (fun r9 hr9 => ?_)
                  subst hr9
                  refine W.eq (g2 := F0 m 177 ls [.int (nI (lowN (w >>> (8 &&& 31)) (1000 - (lowN w 200)))), .int (nI ((lowN w 200) + 1)), .int (nI (lowN w 200)), .ref (q 0)]) rfl ?_
                  refine lv_iadd hx hb dL_change_177 ?_
                  refine W.eq (g2 := F0 m 178 ls [.int (nI (((lowN w 200) + 1) + (lowN (w >>> (8 &&& 31)) (1000 - (lowN w 200))))), .int (nI (lowN w 200)), .ref (q 0)]) (congrArg (fun z9 => F0 m 178 ls (.int z9 :: [.int (nI (lowN w 200)), .ref (q 0)])) (nI_add _ _)) ?_
                  refine wn_V S hkx hth (nX5_addVersion l hl0 (sa := sa) (A9 := A) (h9 := (fun q h => hA q (Nat.le_trans hS.1 h))) (hP := hP) (hD := hD.weaken (fun _ _ _ _ => trivial)) (hwf := hwf) (hsc := (by omega)) (hx := (by omega)) (hz1 := (by omega)) (hz := (by omega)) (h8 := (by omega)) (x := (lowN w 200)) (z := (((lowN w 200) + 1) + (lowN (w >>> (8 &&& 31)) (1000 - (lowN w 200)))))) gL_change_X5_addVersion rfl idX5_addVersion ⟨Nat.le_of_ble_eq_true rfl, Nat.le_of_ble_eq_true rfl⟩ hP 0 rfl rfl rfl rfl hl.1 rfl (Nat.le_of_ble_eq_true rfl) dL_change_178 ⟨Nat.le_of_ble_eq_true rfl, Nat.le_of_ble_eq_true rfl⟩ hS (fr_in hD (fun q h => hA q (Nat.le_trans hS.1 h))) (fun v9 H locs hp9 hz1 hk1 hS => ?_)
                  obtain ⟨rfl, hP⟩ := hp9
                  have hP : va_P G vwCl (wMain T q a (va_up N 0 (N 0 + 1)) (vAdd N Z (nI (lowN w 200)) (nI (((lowN w 200) + 1) + (lowN (w >>> (8 &&& 31)) (1000 - (lowN w 200)))))) (svB sc b) (psh sc M N) (psh sc Y Z) (svC sc) tx L cu er le nb nc) H := hP
                  have hD : va_D A (wMain T q a (va_up N 0 (N 0 + 1)) (vAdd N Z (nI (lowN w 200)) (nI (((lowN w 200) + 1) + (lowN (w >>> (8 &&& 31)) (1000 - (lowN w 200)))))) (svB sc b) (psh sc M N) (psh sc Y Z) (svC sc) tx L cu er le nb nc) := D_perm hD sv_addr
                  have hth := hth0.kept hS.2.1
                  refine W.eq (g2 := F0 m 181 ls [.int (nI (N 0))]) rfl ?_
                  refine lv_goto (tgt := 189) hx hb dL_change_181 (by decide) ?_
                  have hv9 : chg N Z v w = ((nI (N 0)), (va_up N 0 (N 0 + 1)), (vAdd N Z (nI (lowN w 200)) (nI (((lowN w 200) + 1) + (lowN (w >>> (8 &&& 31)) (1000 - (lowN w 200))))))) := by rw [hg]; unfold ch0; rw [if_pos (by first | assumption | omega | exact ⟨by first | assumption | omega, by first | assumption | omega⟩ | exact ⟨by first | assumption | omega, by first | assumption | omega, by first | assumption | omega⟩)]
                  exact hret _ H _ _ _ _ _ (show some (Value.int (nI (N 0))) = some (Value.int ((chg N Z v w).1)) ∧ wst G T q a (chg N Z v w).2.1 (chg N Z v w).2.2 b tx L cu er le nb nc H from ⟨by rw [hv9], by rw [hv9]; exact wst_sv hsc hP⟩) rfl hS (Nat.le_of_ble_eq_true rfl) (Nat.le_of_ble_eq_true rfl) dL_change_189
              · refine lv_tableIn (off := 98) (tgt := 190) hx hb dL_change_92 (by decide) (by decide) rfl (by decide) ?_
                have hg : chg N Z v w = ch1 N Z w := by unfold chg; rw [hcz]; rfl
                refine lv_iload_n hx hb dL_change_190 rfl (lv_at hl 5 rfl) ?_
                refine lv_if_le (tgt := 215) hx hb dL_change_191 (by decide) (fun c_138 => ?_) (fun c_138 => ?_)
                · replace c_138 := cn_le (a := (N 0)) (b := 0) (by omega) (by omega) c_138
                  refine lv_iload_n hx hb dL_change_215 rfl (lv_at hl 5 rfl) ?_
                  refine lv_if_ne (tgt := 230) hx hb dL_change_216 (by decide) (fun c_139 => ?_) (fun c_139 => ?_)
                  · exact absurd (show nI (N 0) = 0 by rw [show N 0 = 0 by omega]; rfl) c_139
                  · replace c_139 := cn_eq (a := (N 0)) (b := 0) (by omega) (by omega) c_139
                    refine lv_aload_n hx hb dL_change_219 rfl (lv_at hl 2 rfl) ?_
                    refine lv_iconst (v := 0) hx hb dL_change_220 (by decide) ?_
                    refine lv_sipush (v := 700) hx hb dL_change_221 (by decide) ?_
                    refine wn_V S hkx hth (nX5_addVersion l hl0 (sa := sa) (A9 := A) (h9 := (fun q h => hA q (Nat.le_trans hS.1 h))) (hP := hP) (hD := hD.weaken (fun _ _ _ _ => trivial)) (hwf := hwf) (hsc := (by omega)) (hx := (by omega)) (hz1 := (by omega)) (hz := (by omega)) (h8 := (by omega)) (x := 0) (z := 700)) gL_change_X5_addVersion rfl idX5_addVersion ⟨Nat.le_of_ble_eq_true rfl, Nat.le_of_ble_eq_true rfl⟩ hP 0 rfl rfl rfl rfl hl.1 rfl (Nat.le_of_ble_eq_true rfl) dL_change_224 ⟨Nat.le_of_ble_eq_true rfl, Nat.le_of_ble_eq_true rfl⟩ hS (fr_in hD (fun q h => hA q (Nat.le_trans hS.1 h))) (fun v9 H locs hp9 hz1 hk1 hS => ?_)
                    obtain ⟨rfl, hP⟩ := hp9
                    have hP : va_P G vwCl (wMain T q a (va_up N 0 (N 0 + 1)) (vAdd N Z (nI 0) (nI 700)) (svB sc b) (psh sc M N) (psh sc Y Z) (svC sc) tx L cu er le nb nc) H := hP
                    have hD : va_D A (wMain T q a (va_up N 0 (N 0 + 1)) (vAdd N Z (nI 0) (nI 700)) (svB sc b) (psh sc M N) (psh sc Y Z) (svC sc) tx L cu er le nb nc) := D_perm hD sv_addr
                    have hth := hth0.kept hS.2.1
                    refine W.eq (g2 := F0 m 227 ls [.int (nI (N 0))]) rfl ?_
                    refine lv_goto (tgt := 231) hx hb dL_change_227 (by decide) ?_
                    have hv9 : chg N Z v w = ((nI (N 0)), (va_up N 0 (N 0 + 1)), (vAdd N Z (nI 0) (nI 700))) := by rw [hg]; unfold ch1; rw [if_neg (by first | assumption | omega | exact (fun q9 => by first | omega | exact absurd q9.2 (by assumption) | exact absurd q9.2.1 (by assumption) | exact absurd q9.2.2 (by assumption)))]; rw [if_pos (by first | assumption | omega | exact ⟨by first | assumption | omega, by first | assumption | omega⟩ | exact ⟨by first | assumption | omega, by first | assumption | omega, by first | assumption | omega⟩)]
                    exact hret _ H _ _ _ _ _ (show some (Value.int (nI (N 0))) = some (Value.int ((chg N Z v w).1)) ∧ wst G T q a (chg N Z v w).2.1 (chg N Z v w).2.2 b tx L cu er le nb nc H from ⟨by rw [hv9], by rw [hv9]; exact wst_sv hsc hP⟩) rfl hS (Nat.le_of_ble_eq_true rfl) (Nat.le_of_ble_eq_true rfl) dL_change_231
                · replace c_138 := cn_nle (a := (N 0)) (b := 0) (by omega) (by omega) c_138
                  refine lv_iload hx hb dL_change_194 (lv_at hl 6 rfl) ?_
                  refine lv_bipush (v := 6) hx hb dL_change_196 (by decide) ?_
                  refine lv_icmp_ge (tgt := 215) hx hb dL_change_198 (by decide) (fun c_140 => ?_) (fun c_140 => ?_)
                  · replace c_140 := cn_le (a := 6) (b := (N 1)) (by omega) (by omega) c_140
                    refine lv_iload_n hx hb dL_change_215 rfl (lv_at hl 5 rfl) ?_
                    refine lv_if_ne (tgt := 230) hx hb dL_change_216 (by decide) (fun c_141 => ?_) (fun c_141 => ?_)
                    · replace c_141 := cn_ne (a := (N 0)) (b := 0) (by omega) (by omega) c_141
                      refine lv_iconst (v := 0) hx hb dL_change_230 (by decide) ?_
                      have hv9 : chg N Z v w = (0, N, Z) := by rw [hg]; unfold ch1; rw [if_neg (by first | assumption | omega | exact (fun q9 => by first | omega | exact absurd q9.2 (by assumption) | exact absurd q9.2.1 (by assumption) | exact absurd q9.2.2 (by assumption)))]; rw [if_neg (by first | assumption | omega | exact (fun q9 => by first | omega | exact absurd q9.2 (by assumption) | exact absurd q9.2.1 (by assumption) | exact absurd q9.2.2 (by assumption)))]
                      exact hret _ H _ _ _ _ _ (show some (Value.int 0) = some (Value.int ((chg N Z v w).1)) ∧ wst G T q a (chg N Z v w).2.1 (chg N Z v w).2.2 b tx L cu er le nb nc H from ⟨by rw [hv9], by rw [hv9]; exact wst_id hsc hP⟩) rfl hS (Nat.le_of_ble_eq_true rfl) (Nat.le_of_ble_eq_true rfl) dL_change_231
                    · exfalso; replace c_141 := cn_eq (a := N 0) (b := 0) (by omega) (by omega) c_141; omega
                  · replace c_140 := cn_nle (a := 6) (b := (N 1)) (by omega) (by omega) c_140
                    refine lv_aload_n hx hb dL_change_201 rfl (lv_at hl 2 rfl) ?_
                    refine lv_iload_n hx hb dL_change_202 rfl (lv_at hl 4 rfl) ?_
                    refine lv_iconst (v := 1) hx hb dL_change_203 (by decide) ?_
                    refine lv_iload_n hx hb dL_change_204 rfl (lv_at hl 5 rfl) ?_
                    refine lv_ishl hx hb dL_change_205 ?_
                    refine W.eq (g2 := F0 m 206 ls [.int (nI (2 ^ N 0)), .int w, .ref (q 0)]) (congrArg (fun z9 => F0 m 206 ls (.int z9 :: [.int w, .ref (q 0)])) (sh_1 (N 0) (by omega))) ?_
                    refine ro_S S hkx (mL_low l (v := w) (k := (2 ^ N 0)) (h0 := (Nat.pow_pos (by decide))) (hk := (Nat.pow_lt_pow_right (by decide) (by omega)))) gL_change_L_low rfl idL_low.2 ⟨Nat.le_of_ble_eq_true rfl, Nat.le_of_ble_eq_true rfl⟩ rfl hl.1 rfl (Nat.le_of_ble_eq_true rfl) dL_change_206 ⟨Nat.le_of_ble_eq_true rfl, Nat.le_of_ble_eq_true rfl⟩ (fun r9 hr9 => ?_)
                    subst hr9
                    refine W.eq (g2 := F0 m 209 ls [.int (nI (lowN w (2 ^ N 0))), .ref (q 0)]) rfl ?_
                    refine wn_V S hkx hth (nX5_addFeature l hl0 (sa := sa) (A9 := A) (h9 := (fun q h => hA q (Nat.le_trans hS.1 h))) (hP := hP) (hD := hD.weaken (fun _ _ _ _ => trivial)) (hwf := hwf) (hsc := (by omega)) (hx := (lowN_lt _ (Nat.pow_pos (by decide)))) (h8 := (by omega)) (x := (lowN w (2 ^ N 0)))) gL_change_X5_addFeature rfl idX5_addFeature ⟨Nat.le_of_ble_eq_true rfl, Nat.le_of_ble_eq_true rfl⟩ hP 0 rfl rfl rfl rfl hl.1 rfl (Nat.le_of_ble_eq_true rfl) dL_change_209 ⟨Nat.le_of_ble_eq_true rfl, Nat.le_of_ble_eq_true rfl⟩ hS (fr_in hD (fun q h => hA q (Nat.le_trans hS.1 h))) (fun v9 H locs hp9 hz1 hk1 hS => ?_)
                    obtain ⟨rfl, hP⟩ := hp9
                    have hP : va_P G vwCl (wMain T q a (va_up N 1 (N 1 + 1)) (va_up Z 4 (apF (Z 4) (nI (lowN w (2 ^ N 0))) (N 1) (N 0))) (svB sc b) (psh sc M N) (psh sc Y Z) (svC sc) tx L cu er le nb nc) H := hP
                    have hD : va_D A (wMain T q a (va_up N 1 (N 1 + 1)) (va_up Z 4 (apF (Z 4) (nI (lowN w (2 ^ N 0))) (N 1) (N 0))) (svB sc b) (psh sc M N) (psh sc Y Z) (svC sc) tx L cu er le nb nc) := D_perm hD sv_addr
                    have hth := hth0.kept hS.2.1
                    refine W.eq (g2 := F0 m 212 ls [.int (nI (N 1))]) rfl ?_
                    refine lv_goto (tgt := 231) hx hb dL_change_212 (by decide) ?_
                    have hv9 : chg N Z v w = ((nI (N 1)), (va_up N 1 (N 1 + 1)), (va_up Z 4 (apF (Z 4) (nI (lowN w (2 ^ N 0))) (N 1) (N 0)))) := by rw [hg]; unfold ch1; rw [if_pos (by first | assumption | omega | exact ⟨by first | assumption | omega, by first | assumption | omega⟩ | exact ⟨by first | assumption | omega, by first | assumption | omega, by first | assumption | omega⟩)]
                    exact hret _ H _ _ _ _ _ (show some (Value.int (nI (N 1))) = some (Value.int ((chg N Z v w).1)) ∧ wst G T q a (chg N Z v w).2.1 (chg N Z v w).2.2 b tx L cu er le nb nc H from ⟨by rw [hv9], by rw [hv9]; exact wst_sv hsc hP⟩) rfl hS (Nat.le_of_ble_eq_true rfl) (Nat.le_of_ble_eq_true rfl) dL_change_231
              · refine lv_tableIn (off := 140) (tgt := 232) hx hb dL_change_92 (by decide) (by decide) rfl (by decide) ?_
                have hg : chg N Z v w = ch2 N Z v := by unfold chg; rw [hcz]; rfl
                refine lv_iload_n hx hb dL_change_232 rfl (lv_at hl 5 rfl) ?_
                refine lv_if_le (tgt := 272) hx hb dL_change_233 (by decide) (fun c_142 => ?_) (fun c_142 => ?_)
                · replace c_142 := cn_le (a := (N 0)) (b := 0) (by omega) (by omega) c_142
                  refine lv_iconst (v := 0) hx hb dL_change_272 (by decide) ?_
                  have hv9 : chg N Z v w = (0, N, Z) := by rw [hg]; unfold ch2; rw [if_neg (by first | assumption | omega | exact (fun q9 => by first | omega | exact absurd q9.2 (by assumption) | exact absurd q9.2.1 (by assumption) | exact absurd q9.2.2 (by assumption)))]
                  exact hret _ H _ _ _ _ _ (show some (Value.int 0) = some (Value.int ((chg N Z v w).1)) ∧ wst G T q a (chg N Z v w).2.1 (chg N Z v w).2.2 b tx L cu er le nb nc H from ⟨by rw [hv9], by rw [hv9]; exact wst_id hsc hP⟩) rfl hS (Nat.le_of_ble_eq_true rfl) (Nat.le_of_ble_eq_true rfl) dL_change_273
                · replace c_142 := cn_nle (a := (N 0)) (b := 0) (by omega) (by omega) c_142
                  refine lv_iload hx hb dL_change_236 (lv_at hl 6 rfl) ?_
                  refine lv_if_le (tgt := 272) hx hb dL_change_238 (by decide) (fun c_143 => ?_) (fun c_143 => ?_)
                  · replace c_143 := cn_le (a := (N 1)) (b := 0) (by omega) (by omega) c_143
                    refine lv_iconst (v := 0) hx hb dL_change_272 (by decide) ?_
                    have hv9 : chg N Z v w = (0, N, Z) := by rw [hg]; unfold ch2; rw [if_neg (by first | assumption | omega | exact (fun q9 => by first | omega | exact absurd q9.2 (by assumption) | exact absurd q9.2.1 (by assumption) | exact absurd q9.2.2 (by assumption)))]
                    exact hret _ H _ _ _ _ _ (show some (Value.int 0) = some (Value.int ((chg N Z v w).1)) ∧ wst G T q a (chg N Z v w).2.1 (chg N Z v w).2.2 b tx L cu er le nb nc H from ⟨by rw [hv9], by rw [hv9]; exact wst_id hsc hP⟩) rfl hS (Nat.le_of_ble_eq_true rfl) (Nat.le_of_ble_eq_true rfl) dL_change_273
                  · replace c_143 := cn_nle (a := (N 1)) (b := 0) (by omega) (by omega) c_143
                    refine lv_aload_n hx hb dL_change_241 rfl (lv_at hl 2 rfl) ?_
                    refine lv_iload hx hb dL_change_242 (lv_at hl 1 rfl) ?_
                    refine lv_iload hx hb dL_change_244 (lv_at hl 9 rfl) ?_
                    refine lv_aload_n hx hb dL_change_246 rfl (lv_at hl 2 rfl) ?_
                    refine lv_iload hx hb dL_change_247 (lv_at hl 9 rfl) ?_
                    refine lv_iconst (v := 2) hx hb dL_change_249 (by decide) ?_
                    refine rn_V S hkx hth (nX5_version l hl0 (sa := sa) (h9 := (fun q h => hA q (Nat.le_trans hS.1 h))) (hP := hP) (hwf := hwf) (hv := (chA_lt (by omega))) (hw := (by omega)) (v := (chA N v)) (w := 2)) gL_change_X5_version rfl idX5_version ⟨Nat.le_of_ble_eq_true rfl, Nat.le_of_ble_eq_true rfl⟩ hP 0 rfl rfl rfl rfl hl.1 rfl (Nat.le_of_ble_eq_true rfl) dL_change_250 ⟨Nat.le_of_ble_eq_true rfl, Nat.le_of_ble_eq_true rfl⟩ (fun v9 hv9 => ?_)
                    subst hv9
                    refine W.eq (g2 := F0 m 253 ls [.int (Z 4 (chA N v)), .int (nI (chA N v)), .int (nI (chF N v)), .ref (q 0)]) rfl ?_
                    refine lv_iload hx hb dL_change_253 (lv_at hl 1 rfl) ?_
                    refine lv_ishr hx hb dL_change_255 ?_
                    refine lv_iconst (v := 1) hx hb dL_change_256 (by decide) ?_
                    refine lv_iand hx hb dL_change_257 ?_
                    refine W.eq (g2 := F0 m 258 ls [.int (bI (cnt1 (Z 4 (chA N v)) (nI (chF N v)))), .int (nI (chA N v)), .int (nI (chF N v)), .ref (q 0)]) (congrArg (fun z9 => F0 m 258 ls (.int z9 :: [.int (nI (chA N v)), .int (nI (chF N v)), .ref (q 0)])) (and_cn (Nat.lt_of_lt_of_le (chF_lt (by omega)) (by omega)))) ?_
                    refine lv_if_ne (tgt := 265) hx hb dL_change_258 (by decide) (fun c_144 => ?_) (fun c_144 => ?_)
                    · replace c_144 := bI_n0 c_144
                      refine lv_iconst (v := 0) hx hb dL_change_265 (by decide) ?_
                      refine W.eq (g2 := F0 m 266 ls [.int (bI false), .int (nI (chA N v)), .int (nI (chF N v)), .ref (q 0)]) (congrArg (fun z9 => F0 m 266 ls (.int z9 :: [.int (nI (chA N v)), .int (nI (chF N v)), .ref (q 0)])) (rfl)) ?_
                      refine wn_V S hkx hth (nX5_put l hl0 (sa := sa) (A9 := A) (h9 := (fun q h => hA q (Nat.le_trans hS.1 h))) (hP := hP) (hD := hD.weaken (fun _ _ _ _ => trivial)) (hwf := hwf) (hsc := (by omega)) (hf := (chF_lt (by omega))) (hv := (chA_lt (by omega))) (h8 := (by first | (rw [show cnt1 (Z 4 (chA N v)) (nI (chF N v)) = true by assumption]; decide) | (rw [show cnt1 (Z 4 (chA N v)) (nI (chF N v)) = false by assumption]; decide))) (f := (chF N v)) (v := (chA N v)) (h := false)) gL_change_X5_put rfl idX5_put ⟨Nat.le_of_ble_eq_true rfl, Nat.le_of_ble_eq_true rfl⟩ hP 0 rfl rfl rfl rfl hl.1 rfl (Nat.le_of_ble_eq_true rfl) dL_change_266 ⟨Nat.le_of_ble_eq_true rfl, Nat.le_of_ble_eq_true rfl⟩ hS (fr_in hD (fun q h => hA q (Nat.le_trans hS.1 h))) (fun v9 H locs hp9 hz1 hk1 hS => ?_)
                      obtain ⟨rfl, hP⟩ := hp9
                      have hP : va_P G vwCl (wMain T q a N (va_up Z 4 (upd (Z 4) (chA N v) (Z 4 (chA N v) ^^^ ((1 : Int32) <<< (nI (chF N v) &&& 31))))) (svB sc b) (psh sc M N) (psh sc Y Z) (svC sc) tx L cu er le nb nc) H := hP
                      have hD : va_D A (wMain T q a N (va_up Z 4 (upd (Z 4) (chA N v) (Z 4 (chA N v) ^^^ ((1 : Int32) <<< (nI (chF N v) &&& 31))))) (svB sc b) (psh sc M N) (psh sc Y Z) (svC sc) tx L cu er le nb nc) := D_perm hD sv_addr
                      have hth := hth0.kept hS.2.1
                      refine W.eq (g2 := F0 m 269 ls [.int (allW (va_up Z 4 (upd (Z 4) (chA N v) (Z 4 (chA N v) ^^^ ((1 : Int32) <<< (nI (chF N v) &&& 31))))) (nI (chF N v)) (N 0))]) rfl ?_
                      refine lv_goto (tgt := 273) hx hb dL_change_269 (by decide) ?_
                      have hv9 : chg N Z v w = ((allW (va_up Z 4 (upd (Z 4) (chA N v) (Z 4 (chA N v) ^^^ ((1 : Int32) <<< (nI (chF N v) &&& 31))))) (nI (chF N v)) (N 0)), N, (va_up Z 4 (upd (Z 4) (chA N v) (Z 4 (chA N v) ^^^ ((1 : Int32) <<< (nI (chF N v) &&& 31)))))) := by rw [hg]; unfold ch2; rw [if_pos (by first | assumption | omega | exact ⟨by first | assumption | omega, by first | assumption | omega⟩ | exact ⟨by first | assumption | omega, by first | assumption | omega, by first | assumption | omega⟩)]
                      exact hret _ H _ _ _ _ _ (show some (Value.int (allW (va_up Z 4 (upd (Z 4) (chA N v) (Z 4 (chA N v) ^^^ ((1 : Int32) <<< (nI (chF N v) &&& 31))))) (nI (chF N v)) (N 0))) = some (Value.int ((chg N Z v w).1)) ∧ wst G T q a (chg N Z v w).2.1 (chg N Z v w).2.2 b tx L cu er le nb nc H from ⟨by rw [hv9], by rw [hv9]; exact wst_sv hsc hP⟩) rfl hS (Nat.le_of_ble_eq_true rfl) (Nat.le_of_ble_eq_true rfl) dL_change_273
                    · replace c_144 := bI_e0 c_144
                      refine lv_iconst (v := 1) hx hb dL_change_261 (by decide) ?_
                      refine lv_goto (tgt := 266) hx hb dL_change_262 (by decide) ?_
                      refine W.eq (g2 := F0 m 266 ls [.int (bI true), .int (nI (chA N v)), .int (nI (chF N v)), .ref (q 0)]) (congrArg (fun z9 => F0 m 266 ls (.int z9 :: [.int (nI (chA N v)), .int (nI (chF N v)), .ref (q 0)])) (rfl)) ?_
                      refine wn_V S hkx hth (nX5_put l hl0 (sa := sa) (A9 := A) (h9 := (fun q h => hA q (Nat.le_trans hS.1 h))) (hP := hP) (hD := hD.weaken (fun _ _ _ _ => trivial)) (hwf := hwf) (hsc := (by omega)) (hf := (chF_lt (by omega))) (hv := (chA_lt (by omega))) (h8 := (by first | (rw [show cnt1 (Z 4 (chA N v)) (nI (chF N v)) = true by assumption]; decide) | (rw [show cnt1 (Z 4 (chA N v)) (nI (chF N v)) = false by assumption]; decide))) (f := (chF N v)) (v := (chA N v)) (h := true)) gL_change_X5_put rfl idX5_put ⟨Nat.le_of_ble_eq_true rfl, Nat.le_of_ble_eq_true rfl⟩ hP 0 rfl rfl rfl rfl hl.1 rfl (Nat.le_of_ble_eq_true rfl) dL_change_266 ⟨Nat.le_of_ble_eq_true rfl, Nat.le_of_ble_eq_true rfl⟩ hS (fr_in hD (fun q h => hA q (Nat.le_trans hS.1 h))) (fun v9 H locs hp9 hz1 hk1 hS => ?_)
                      obtain ⟨rfl, hP⟩ := hp9
                      have hP : va_P G vwCl (wMain T q a N (va_up Z 4 (upd (Z 4) (chA N v) (Z 4 (chA N v) ^^^ ((1 : Int32) <<< (nI (chF N v) &&& 31))))) (svB sc b) (psh sc M N) (psh sc Y Z) (svC sc) tx L cu er le nb nc) H := hP
                      have hD : va_D A (wMain T q a N (va_up Z 4 (upd (Z 4) (chA N v) (Z 4 (chA N v) ^^^ ((1 : Int32) <<< (nI (chF N v) &&& 31))))) (svB sc b) (psh sc M N) (psh sc Y Z) (svC sc) tx L cu er le nb nc) := D_perm hD sv_addr
                      have hth := hth0.kept hS.2.1
                      refine W.eq (g2 := F0 m 269 ls [.int (allW (va_up Z 4 (upd (Z 4) (chA N v) (Z 4 (chA N v) ^^^ ((1 : Int32) <<< (nI (chF N v) &&& 31))))) (nI (chF N v)) (N 0))]) rfl ?_
                      refine lv_goto (tgt := 273) hx hb dL_change_269 (by decide) ?_
                      have hv9 : chg N Z v w = ((allW (va_up Z 4 (upd (Z 4) (chA N v) (Z 4 (chA N v) ^^^ ((1 : Int32) <<< (nI (chF N v) &&& 31))))) (nI (chF N v)) (N 0)), N, (va_up Z 4 (upd (Z 4) (chA N v) (Z 4 (chA N v) ^^^ ((1 : Int32) <<< (nI (chF N v) &&& 31)))))) := by rw [hg]; unfold ch2; rw [if_pos (by first | assumption | omega | exact ⟨by first | assumption | omega, by first | assumption | omega⟩ | exact ⟨by first | assumption | omega, by first | assumption | omega, by first | assumption | omega⟩)]
                      exact hret _ H _ _ _ _ _ (show some (Value.int (allW (va_up Z 4 (upd (Z 4) (chA N v) (Z 4 (chA N v) ^^^ ((1 : Int32) <<< (nI (chF N v) &&& 31))))) (nI (chF N v)) (N 0))) = some (Value.int ((chg N Z v w).1)) ∧ wst G T q a (chg N Z v w).2.1 (chg N Z v w).2.2 b tx L cu er le nb nc H from ⟨by rw [hv9], by rw [hv9]; exact wst_sv hsc hP⟩) rfl hS (Nat.le_of_ble_eq_true rfl) (Nat.le_of_ble_eq_true rfl) dL_change_273
              · refine lv_tableIn (off := 182) (tgt := 274) hx hb dL_change_92 (by decide) (by decide) rfl (by decide) ?_
                have hg : chg N Z v w = ch3 N Z v w := by unfold chg; rw [hcz]; rfl
                refine lv_iload_n hx hb dL_change_274 rfl (lv_at hl 5 rfl) ?_
                refine lv_if_le (tgt := 303) hx hb dL_change_275 (by decide) (fun c_145 => ?_) (fun c_145 => ?_)
                · replace c_145 := cn_le (a := (N 0)) (b := 0) (by omega) (by omega) c_145
                  refine lv_iconst (v := 0) hx hb dL_change_303 (by decide) ?_
                  have hv9 : chg N Z v w = (0, N, Z) := by rw [hg]; unfold ch3; rw [if_neg (by first | assumption | omega | exact (fun q9 => by first | omega | exact absurd q9.2 (by assumption) | exact absurd q9.2.1 (by assumption) | exact absurd q9.2.2 (by assumption)))]
                  exact hret _ H _ _ _ _ _ (show some (Value.int 0) = some (Value.int ((chg N Z v w).1)) ∧ wst G T q a (chg N Z v w).2.1 (chg N Z v w).2.2 b tx L cu er le nb nc H from ⟨by rw [hv9], by rw [hv9]; exact wst_id hsc hP⟩) rfl hS (Nat.le_of_ble_eq_true rfl) (Nat.le_of_ble_eq_true rfl) dL_change_304
                · replace c_145 := cn_nle (a := (N 0)) (b := 0) (by omega) (by omega) c_145
                  refine lv_iload hx hb dL_change_278 (lv_at hl 7 rfl) ?_
                  refine lv_iconst (v := 5) hx hb dL_change_280 (by decide) ?_
                  refine lv_icmp_ge (tgt := 303) hx hb dL_change_281 (by decide) (fun c_146 => ?_) (fun c_146 => ?_)
                  · replace c_146 := cn_le (a := 5) (b := (N 2)) (by omega) (by omega) c_146
                    refine lv_iconst (v := 0) hx hb dL_change_303 (by decide) ?_
                    have hv9 : chg N Z v w = (0, N, Z) := by rw [hg]; unfold ch3; rw [if_neg (by first | assumption | omega | exact (fun q9 => by first | omega | exact absurd q9.2 (by assumption) | exact absurd q9.2.1 (by assumption) | exact absurd q9.2.2 (by assumption)))]
                    exact hret _ H _ _ _ _ _ (show some (Value.int 0) = some (Value.int ((chg N Z v w).1)) ∧ wst G T q a (chg N Z v w).2.1 (chg N Z v w).2.2 b tx L cu er le nb nc H from ⟨by rw [hv9], by rw [hv9]; exact wst_id hsc hP⟩) rfl hS (Nat.le_of_ble_eq_true rfl) (Nat.le_of_ble_eq_true rfl) dL_change_304
                  · replace c_146 := cn_nle (a := 5) (b := (N 2)) (by omega) (by omega) c_146
                    refine lv_aload_n hx hb dL_change_284 rfl (lv_at hl 2 rfl) ?_
                    refine lv_iload hx hb dL_change_285 (lv_at hl 9 rfl) ?_
                    refine lv_iload_n hx hb dL_change_287 rfl (lv_at hl 4 rfl) ?_
                    refine lv_iconst (v := 3) hx hb dL_change_288 (by decide) ?_
                    refine lv_ishr hx hb dL_change_289 ?_
                    refine lv_iconst (v := 1) hx hb dL_change_290 (by decide) ?_
                    refine lv_iload hx hb dL_change_291 (lv_at hl 6 rfl) ?_
                    refine lv_ishl hx hb dL_change_293 ?_
                    refine W.eq (g2 := F0 m 294 ls [.int (nI (2 ^ N 1)), .int (w >>> (3 &&& 31)), .int (nI (chA N v)), .ref (q 0)]) (congrArg (fun z9 => F0 m 294 ls (.int z9 :: [.int (w >>> (3 &&& 31)), .int (nI (chA N v)), .ref (q 0)])) (sh_1 (N 1) (by omega))) ?_
                    refine ro_S S hkx (mL_low l (v := (w >>> (3 &&& 31))) (k := (2 ^ N 1)) (h0 := (Nat.pow_pos (by decide))) (hk := (Nat.pow_lt_pow_right (by decide) (by omega)))) gL_change_L_low rfl idL_low.2 ⟨Nat.le_of_ble_eq_true rfl, Nat.le_of_ble_eq_true rfl⟩ rfl hl.1 rfl (Nat.le_of_ble_eq_true rfl) dL_change_294 ⟨Nat.le_of_ble_eq_true rfl, Nat.le_of_ble_eq_true rfl⟩ (fun r9 hr9 => ?_)
                    subst hr9
                    refine W.eq (g2 := F0 m 297 ls [.int (nI (lowN (w >>> (3 &&& 31)) (2 ^ N 1))), .int (nI (chA N v)), .ref (q 0)]) rfl ?_
                    refine wn_V S hkx hth (nX5_addUser l hl0 (sa := sa) (A9 := A) (h9 := (fun q h => hA q (Nat.le_trans hS.1 h))) (hP := hP) (hD := hD.weaken (fun _ _ _ _ => trivial)) (hwf := hwf) (hsc := (by omega)) (hv := (chA_lt (by omega))) (hx := (lowN_lt _ (Nat.pow_pos (by decide)))) (h8 := (by omega)) (v := (chA N v)) (x := (lowN (w >>> (3 &&& 31)) (2 ^ N 1)))) gL_change_X5_addUser rfl idX5_addUser ⟨Nat.le_of_ble_eq_true rfl, Nat.le_of_ble_eq_true rfl⟩ hP 0 rfl rfl rfl rfl hl.1 rfl (Nat.le_of_ble_eq_true rfl) dL_change_297 ⟨Nat.le_of_ble_eq_true rfl, Nat.le_of_ble_eq_true rfl⟩ hS (fr_in hD (fun q h => hA q (Nat.le_trans hS.1 h))) (fun v9 H locs hp9 hz1 hk1 hS => ?_)
                    obtain ⟨rfl, hP⟩ := hp9
                    have hP : va_P G vwCl (wMain T q a (va_up N 2 (N 2 + 1)) (uAdd N Z (nI (chA N v)) (nI (lowN (w >>> (3 &&& 31)) (2 ^ N 1)))) (svB sc b) (psh sc M N) (psh sc Y Z) (svC sc) tx L cu er le nb nc) H := hP
                    have hD : va_D A (wMain T q a (va_up N 2 (N 2 + 1)) (uAdd N Z (nI (chA N v)) (nI (lowN (w >>> (3 &&& 31)) (2 ^ N 1)))) (svB sc b) (psh sc M N) (psh sc Y Z) (svC sc) tx L cu er le nb nc) := D_perm hD sv_addr
                    have hth := hth0.kept hS.2.1
                    refine W.eq (g2 := F0 m 300 ls [.int (nI (N 2))]) rfl ?_
                    refine lv_goto (tgt := 304) hx hb dL_change_300 (by decide) ?_
                    have hv9 : chg N Z v w = ((nI (N 2)), (va_up N 2 (N 2 + 1)), (uAdd N Z (nI (chA N v)) (nI (lowN (w >>> (3 &&& 31)) (2 ^ N 1))))) := by rw [hg]; unfold ch3; rw [if_pos (by first | assumption | omega | exact ⟨by first | assumption | omega, by first | assumption | omega⟩ | exact ⟨by first | assumption | omega, by first | assumption | omega, by first | assumption | omega⟩)]
                    exact hret _ H _ _ _ _ _ (show some (Value.int (nI (N 2))) = some (Value.int ((chg N Z v w).1)) ∧ wst G T q a (chg N Z v w).2.1 (chg N Z v w).2.2 b tx L cu er le nb nc H from ⟨by rw [hv9], by rw [hv9]; exact wst_sv hsc hP⟩) rfl hS (Nat.le_of_ble_eq_true rfl) (Nat.le_of_ble_eq_true rfl) dL_change_304
              · refine lv_tableIn (off := 213) (tgt := 305) hx hb dL_change_92 (by decide) (by decide) rfl (by decide) ?_
                have hg : chg N Z v w = ch4 N Z v w := by unfold chg; rw [hcz]; rfl
                refine lv_iload hx hb dL_change_305 (lv_at hl 7 rfl) ?_
                refine lv_if_le (tgt := 328) hx hb dL_change_307 (by decide) (fun c_147 => ?_) (fun c_147 => ?_)
                · replace c_147 := cn_le (a := (N 2)) (b := 0) (by omega) (by omega) c_147
                  refine lv_iconst (v := 0) hx hb dL_change_328 (by decide) ?_
                  have hv9 : chg N Z v w = (0, N, Z) := by rw [hg]; unfold ch4; rw [if_neg (by first | assumption | omega | exact (fun q9 => by first | omega | exact absurd q9.2 (by assumption) | exact absurd q9.2.1 (by assumption) | exact absurd q9.2.2 (by assumption)))]
                  exact hret _ H _ _ _ _ _ (show some (Value.int 0) = some (Value.int ((chg N Z v w).1)) ∧ wst G T q a (chg N Z v w).2.1 (chg N Z v w).2.2 b tx L cu er le nb nc H from ⟨by rw [hv9], by rw [hv9]; exact wst_id hsc hP⟩) rfl hS (Nat.le_of_ble_eq_true rfl) (Nat.le_of_ble_eq_true rfl) dL_change_329
                · replace c_147 := cn_nle (a := (N 2)) (b := 0) (by omega) (by omega) c_147
                  refine lv_aload_n hx hb dL_change_310 rfl (lv_at hl 2 rfl) ?_
                  refine lv_iload hx hb dL_change_311 (lv_at hl 8 rfl) ?_
                  refine lv_iload hx hb dL_change_313 (lv_at hl 9 rfl) ?_
                  refine lv_iload_n hx hb dL_change_315 rfl (lv_at hl 4 rfl) ?_
                  refine lv_sipush (v := 1000) hx hb dL_change_316 (by decide) ?_
                  refine ro_S S hkx (mL_low l (v := w) (k := 1000) (h0 := (by omega)) (hk := (by omega))) gL_change_L_low rfl idL_low.2 ⟨Nat.le_of_ble_eq_true rfl, Nat.le_of_ble_eq_true rfl⟩ rfl hl.1 rfl (Nat.le_of_ble_eq_true rfl) dL_change_319 ⟨Nat.le_of_ble_eq_true rfl, Nat.le_of_ble_eq_true rfl⟩ (fun r9 hr9 => ?_)
                  subst hr9
                  refine W.eq (g2 := F0 m 322 ls [.int (nI (lowN w 1000)), .int (nI (chA N v)), .int (nI (chU N v)), .ref (q 0)]) rfl ?_
                  refine wn_V S hkx hth (nX5_pledge l hl0 (sa := sa) (A9 := A) (h9 := (fun q h => hA q (Nat.le_trans hS.1 h))) (hP := hP) (hD := hD.weaken (fun _ _ _ _ => trivial)) (hwf := hwf) (hsc := (by omega)) (hu := (chU_lt (by omega))) (hv := (chA_lt (u_v hwf (by omega)))) (hd := (by omega)) (u := (chU N v)) (v := (chA N v)) (d := (lowN w 1000))) gL_change_X5_pledge rfl idX5_pledge ⟨Nat.le_of_ble_eq_true rfl, Nat.le_of_ble_eq_true rfl⟩ hP 0 rfl rfl rfl rfl hl.1 rfl (Nat.le_of_ble_eq_true rfl) dL_change_322 ⟨Nat.le_of_ble_eq_true rfl, Nat.le_of_ble_eq_true rfl⟩ hS (fr_in hD (fun q h => hA q (Nat.le_trans hS.1 h))) (fun v9 H locs hp9 hz1 hk1 hS => ?_)
                  obtain ⟨rfl, hP⟩ := hp9
                  have hP : va_P G vwCl (wMain T q a N (uPl Z (chU N v) (nI (chA N v)) (nI (lowN w 1000))) (svB sc b) (psh sc M N) (psh sc Y Z) (svC sc) tx L cu er le nb nc) H := hP
                  have hD : va_D A (wMain T q a N (uPl Z (chU N v) (nI (chA N v)) (nI (lowN w 1000))) (svB sc b) (psh sc M N) (psh sc Y Z) (svC sc) tx L cu er le nb nc) := D_perm hD sv_addr
                  have hth := hth0.kept hS.2.1
                  refine W.eq (g2 := F0 m 325 ls [.int (Z 8 (chU N v))]) rfl ?_
                  refine lv_goto (tgt := 329) hx hb dL_change_325 (by decide) ?_
                  have hv9 : chg N Z v w = ((Z 8 (chU N v)), N, (uPl Z (chU N v) (nI (chA N v)) (nI (lowN w 1000)))) := by rw [hg]; unfold ch4; rw [if_pos (by first | assumption | omega | exact ⟨by first | assumption | omega, by first | assumption | omega⟩ | exact ⟨by first | assumption | omega, by first | assumption | omega, by first | assumption | omega⟩)]
                  exact hret _ H _ _ _ _ _ (show some (Value.int (Z 8 (chU N v))) = some (Value.int ((chg N Z v w).1)) ∧ wst G T q a (chg N Z v w).2.1 (chg N Z v w).2.2 b tx L cu er le nb nc H from ⟨by rw [hv9], by rw [hv9]; exact wst_sv hsc hP⟩) rfl hS (Nat.le_of_ble_eq_true rfl) (Nat.le_of_ble_eq_true rfl) dL_change_329
              · refine lv_tableIn (off := 213) (tgt := 305) hx hb dL_change_92 (by decide) (by decide) rfl (by decide) ?_
                have hg : chg N Z v w = ch4 N Z v w := by unfold chg; rw [hcz]; rfl
                refine lv_iload hx hb dL_change_305 (lv_at hl 7 rfl) ?_
                refine lv_if_le (tgt := 328) hx hb dL_change_307 (by decide) (fun c_148 => ?_) (fun c_148 => ?_)
                · replace c_148 := cn_le (a := (N 2)) (b := 0) (by omega) (by omega) c_148
                  refine lv_iconst (v := 0) hx hb dL_change_328 (by decide) ?_
                  have hv9 : chg N Z v w = (0, N, Z) := by rw [hg]; unfold ch4; rw [if_neg (by first | assumption | omega | exact (fun q9 => by first | omega | exact absurd q9.2 (by assumption) | exact absurd q9.2.1 (by assumption) | exact absurd q9.2.2 (by assumption)))]
                  exact hret _ H _ _ _ _ _ (show some (Value.int 0) = some (Value.int ((chg N Z v w).1)) ∧ wst G T q a (chg N Z v w).2.1 (chg N Z v w).2.2 b tx L cu er le nb nc H from ⟨by rw [hv9], by rw [hv9]; exact wst_id hsc hP⟩) rfl hS (Nat.le_of_ble_eq_true rfl) (Nat.le_of_ble_eq_true rfl) dL_change_329
                · replace c_148 := cn_nle (a := (N 2)) (b := 0) (by omega) (by omega) c_148
                  refine lv_aload_n hx hb dL_change_310 rfl (lv_at hl 2 rfl) ?_
                  refine lv_iload hx hb dL_change_311 (lv_at hl 8 rfl) ?_
                  refine lv_iload hx hb dL_change_313 (lv_at hl 9 rfl) ?_
                  refine lv_iload_n hx hb dL_change_315 rfl (lv_at hl 4 rfl) ?_
                  refine lv_sipush (v := 1000) hx hb dL_change_316 (by decide) ?_
                  refine ro_S S hkx (mL_low l (v := w) (k := 1000) (h0 := (by omega)) (hk := (by omega))) gL_change_L_low rfl idL_low.2 ⟨Nat.le_of_ble_eq_true rfl, Nat.le_of_ble_eq_true rfl⟩ rfl hl.1 rfl (Nat.le_of_ble_eq_true rfl) dL_change_319 ⟨Nat.le_of_ble_eq_true rfl, Nat.le_of_ble_eq_true rfl⟩ (fun r9 hr9 => ?_)
                  subst hr9
                  refine W.eq (g2 := F0 m 322 ls [.int (nI (lowN w 1000)), .int (nI (chA N v)), .int (nI (chU N v)), .ref (q 0)]) rfl ?_
                  refine wn_V S hkx hth (nX5_pledge l hl0 (sa := sa) (A9 := A) (h9 := (fun q h => hA q (Nat.le_trans hS.1 h))) (hP := hP) (hD := hD.weaken (fun _ _ _ _ => trivial)) (hwf := hwf) (hsc := (by omega)) (hu := (chU_lt (by omega))) (hv := (chA_lt (u_v hwf (by omega)))) (hd := (by omega)) (u := (chU N v)) (v := (chA N v)) (d := (lowN w 1000))) gL_change_X5_pledge rfl idX5_pledge ⟨Nat.le_of_ble_eq_true rfl, Nat.le_of_ble_eq_true rfl⟩ hP 0 rfl rfl rfl rfl hl.1 rfl (Nat.le_of_ble_eq_true rfl) dL_change_322 ⟨Nat.le_of_ble_eq_true rfl, Nat.le_of_ble_eq_true rfl⟩ hS (fr_in hD (fun q h => hA q (Nat.le_trans hS.1 h))) (fun v9 H locs hp9 hz1 hk1 hS => ?_)
                  obtain ⟨rfl, hP⟩ := hp9
                  have hP : va_P G vwCl (wMain T q a N (uPl Z (chU N v) (nI (chA N v)) (nI (lowN w 1000))) (svB sc b) (psh sc M N) (psh sc Y Z) (svC sc) tx L cu er le nb nc) H := hP
                  have hD : va_D A (wMain T q a N (uPl Z (chU N v) (nI (chA N v)) (nI (lowN w 1000))) (svB sc b) (psh sc M N) (psh sc Y Z) (svC sc) tx L cu er le nb nc) := D_perm hD sv_addr
                  have hth := hth0.kept hS.2.1
                  refine W.eq (g2 := F0 m 325 ls [.int (Z 8 (chU N v))]) rfl ?_
                  refine lv_goto (tgt := 329) hx hb dL_change_325 (by decide) ?_
                  have hv9 : chg N Z v w = ((Z 8 (chU N v)), N, (uPl Z (chU N v) (nI (chA N v)) (nI (lowN w 1000)))) := by rw [hg]; unfold ch4; rw [if_pos (by first | assumption | omega | exact ⟨by first | assumption | omega, by first | assumption | omega⟩ | exact ⟨by first | assumption | omega, by first | assumption | omega, by first | assumption | omega⟩)]
                  exact hret _ H _ _ _ _ _ (show some (Value.int (Z 8 (chU N v))) = some (Value.int ((chg N Z v w).1)) ∧ wst G T q a (chg N Z v w).2.1 (chg N Z v w).2.2 b tx L cu er le nb nc H from ⟨by rw [hv9], by rw [hv9]; exact wst_sv hsc hP⟩) rfl hS (Nat.le_of_ble_eq_true rfl) (Nat.le_of_ble_eq_true rfl) dL_change_329
              · refine lv_tableIn (off := 238) (tgt := 330) hx hb dL_change_92 (by decide) (by decide) rfl (by decide) ?_
                have hg : chg N Z v w = ch6 N Z v := by unfold chg; rw [hcz]; rfl
                refine lv_iload hx hb dL_change_330 (lv_at hl 7 rfl) ?_
                refine lv_if_le (tgt := 354) hx hb dL_change_332 (by decide) (fun c_149 => ?_) (fun c_149 => ?_)
                · replace c_149 := cn_le (a := (N 2)) (b := 0) (by omega) (by omega) c_149
                  refine lv_iconst (v := 0) hx hb dL_change_354 (by decide) ?_
                  have hv9 : chg N Z v w = (0, N, Z) := by rw [hg]; unfold ch6; rw [if_neg (by first | assumption | omega | exact (fun q9 => by first | omega | exact absurd q9.2 (by assumption) | exact absurd q9.2.1 (by assumption) | exact absurd q9.2.2 (by assumption)))]
                  exact hret _ H _ _ _ _ _ (show some (Value.int 0) = some (Value.int ((chg N Z v w).1)) ∧ wst G T q a (chg N Z v w).2.1 (chg N Z v w).2.2 b tx L cu er le nb nc H from ⟨by rw [hv9], by rw [hv9]; exact wst_id hsc hP⟩) rfl hS (Nat.le_of_ble_eq_true rfl) (Nat.le_of_ble_eq_true rfl) dL_change_355
                · replace c_149 := cn_nle (a := (N 2)) (b := 0) (by omega) (by omega) c_149
                  refine lv_aload_n hx hb dL_change_335 rfl (lv_at hl 2 rfl) ?_
                  refine lv_iload hx hb dL_change_336 (lv_at hl 8 rfl) ?_
                  refine lv_iconst (v := 2) hx hb dL_change_338 (by decide) ?_
                  refine rn_V S hkx hth (nX5_user l hl0 (sa := sa) (h9 := (fun q h => hA q (Nat.le_trans hS.1 h))) (hP := hP) (hwf := hwf) (hu := (chU_lt (by omega))) (hw := (by omega)) (u := (chU N v)) (w := 2)) gL_change_X5_user rfl idX5_user ⟨Nat.le_of_ble_eq_true rfl, Nat.le_of_ble_eq_true rfl⟩ hP 0 rfl rfl rfl rfl hl.1 rfl (Nat.le_of_ble_eq_true rfl) dL_change_339 ⟨Nat.le_of_ble_eq_true rfl, Nat.le_of_ble_eq_true rfl⟩ (fun v9 hv9 => ?_)
                  subst hv9
                  refine W.eq (g2 := F0 m 342 ls [.int (Z 7 (chU N v))]) rfl ?_
                  refine lv_if_lt (tgt := 354) hx hb dL_change_342 (by decide) (fun c_150 => ?_) (fun c_150 => ?_)
                  · have c_150n := Int32.not_le.mpr c_150
                    refine lv_iconst (v := 0) hx hb dL_change_354 (by decide) ?_
                    have hv9 : chg N Z v w = (0, N, Z) := by rw [hg]; unfold ch6; rw [if_neg (by first | assumption | omega | exact (fun q9 => by first | omega | exact absurd q9.2 (by assumption) | exact absurd q9.2.1 (by assumption) | exact absurd q9.2.2 (by assumption)))]
                    exact hret _ H _ _ _ _ _ (show some (Value.int 0) = some (Value.int ((chg N Z v w).1)) ∧ wst G T q a (chg N Z v w).2.1 (chg N Z v w).2.2 b tx L cu er le nb nc H from ⟨by rw [hv9], by rw [hv9]; exact wst_id hsc hP⟩) rfl hS (Nat.le_of_ble_eq_true rfl) (Nat.le_of_ble_eq_true rfl) dL_change_355
                  · have c_150n := Int32.not_lt.mp c_150
                    refine lv_aload_n hx hb dL_change_345 rfl (lv_at hl 2 rfl) ?_
                    refine lv_iload hx hb dL_change_346 (lv_at hl 8 rfl) ?_
                    refine wn_V S hkx hth (nX5_takeBack l hl0 (sa := sa) (A9 := A) (h9 := (fun q h => hA q (Nat.le_trans hS.1 h))) (hP := hP) (hD := hD.weaken (fun _ _ _ _ => trivial)) (hwf := hwf) (hsc := (by omega)) (hu := (chU_lt (by omega))) (hp := (pl_u hwf (chU_lt (by omega)) (by assumption)).1) (u := (chU N v))) gL_change_X5_takeBack rfl idX5_takeBack ⟨Nat.le_of_ble_eq_true rfl, Nat.le_of_ble_eq_true rfl⟩ hP 0 rfl rfl rfl rfl hl.1 rfl (Nat.le_of_ble_eq_true rfl) dL_change_348 ⟨Nat.le_of_ble_eq_true rfl, Nat.le_of_ble_eq_true rfl⟩ hS (fr_in hD (fun q h => hA q (Nat.le_trans hS.1 h))) (fun v9 H locs hp9 hz1 hk1 hS => ?_)
                    obtain ⟨rfl, hP⟩ := hp9
                    have hP : va_P G vwCl (wMain T q a N (uPl Z (chU N v) (-1) (-1)) (svB sc b) (psh sc M N) (psh sc Y Z) (svC sc) tx L cu er le nb nc) H := hP
                    have hD : va_D A (wMain T q a N (uPl Z (chU N v) (-1) (-1)) (svB sc b) (psh sc M N) (psh sc Y Z) (svC sc) tx L cu er le nb nc) := D_perm hD sv_addr
                    have hth := hth0.kept hS.2.1
                    refine W.eq (g2 := F0 m 351 ls [.int (Z 8 (chU N v))]) rfl ?_
                    refine lv_goto (tgt := 355) hx hb dL_change_351 (by decide) ?_
                    have hv9 : chg N Z v w = ((Z 8 (chU N v)), N, (uPl Z (chU N v) (-1) (-1))) := by rw [hg]; unfold ch6; rw [if_pos (by first | assumption | omega | exact ⟨by first | assumption | omega, by first | assumption | omega⟩ | exact ⟨by first | assumption | omega, by first | assumption | omega, by first | assumption | omega⟩)]
                    exact hret _ H _ _ _ _ _ (show some (Value.int (Z 8 (chU N v))) = some (Value.int ((chg N Z v w).1)) ∧ wst G T q a (chg N Z v w).2.1 (chg N Z v w).2.2 b tx L cu er le nb nc H from ⟨by rw [hv9], by rw [hv9]; exact wst_sv hsc hP⟩) rfl hS (Nat.le_of_ble_eq_true rfl) (Nat.le_of_ble_eq_true rfl) dL_change_355
              · refine lv_tableIn (off := 264) (tgt := 356) hx hb dL_change_92 (by decide) (by decide) rfl (by decide) ?_
                have hg : chg N Z v w = ch7 N Z v w := by unfold chg; rw [hcz]; rfl
                refine lv_iload hx hb dL_change_356 (lv_at hl 7 rfl) ?_
                refine lv_if_le (tgt := 401) hx hb dL_change_358 (by decide) (fun c_151 => ?_) (fun c_151 => ?_)
                · replace c_151 := cn_le (a := (N 2)) (b := 0) (by omega) (by omega) c_151
                  refine lv_iconst (v := 0) hx hb dL_change_401 (by decide) ?_
                  have hv9 : chg N Z v w = (0, N, Z) := by rw [hg]; unfold ch7; rw [if_neg (by first | assumption | omega | exact (fun q9 => by first | omega | exact absurd q9.2 (by assumption) | exact absurd q9.2.1 (by assumption) | exact absurd q9.2.2 (by assumption)))]
                  exact hret _ H _ _ _ _ _ (show some (Value.int 0) = some (Value.int ((chg N Z v w).1)) ∧ wst G T q a (chg N Z v w).2.1 (chg N Z v w).2.2 b tx L cu er le nb nc H from ⟨by rw [hv9], by rw [hv9]; exact wst_id hsc hP⟩) rfl hS (Nat.le_of_ble_eq_true rfl) (Nat.le_of_ble_eq_true rfl) dL_change_402
                · replace c_151 := cn_nle (a := (N 2)) (b := 0) (by omega) (by omega) c_151
                  refine lv_aload_n hx hb dL_change_361 rfl (lv_at hl 2 rfl) ?_
                  refine lv_iload hx hb dL_change_362 (lv_at hl 8 rfl) ?_
                  refine lv_iconst (v := 2) hx hb dL_change_364 (by decide) ?_
                  refine rn_V S hkx hth (nX5_user l hl0 (sa := sa) (h9 := (fun q h => hA q (Nat.le_trans hS.1 h))) (hP := hP) (hwf := hwf) (hu := (chU_lt (by omega))) (hw := (by omega)) (u := (chU N v)) (w := 2)) gL_change_X5_user rfl idX5_user ⟨Nat.le_of_ble_eq_true rfl, Nat.le_of_ble_eq_true rfl⟩ hP 0 rfl rfl rfl rfl hl.1 rfl (Nat.le_of_ble_eq_true rfl) dL_change_365 ⟨Nat.le_of_ble_eq_true rfl, Nat.le_of_ble_eq_true rfl⟩ (fun v9 hv9 => ?_)
                  subst hv9
                  refine W.eq (g2 := F0 m 368 ls [.int (Z 7 (chU N v))]) rfl ?_
                  refine lv_if_lt (tgt := 401) hx hb dL_change_368 (by decide) (fun c_152 => ?_) (fun c_152 => ?_)
                  · have c_152n := Int32.not_le.mpr c_152
                    refine lv_iconst (v := 0) hx hb dL_change_401 (by decide) ?_
                    have hv9 : chg N Z v w = (0, N, Z) := by rw [hg]; unfold ch7; rw [if_neg (by first | assumption | omega | exact (fun q9 => by first | omega | exact absurd q9.2 (by assumption) | exact absurd q9.2.1 (by assumption) | exact absurd q9.2.2 (by assumption)))]
                    exact hret _ H _ _ _ _ _ (show some (Value.int 0) = some (Value.int ((chg N Z v w).1)) ∧ wst G T q a (chg N Z v w).2.1 (chg N Z v w).2.2 b tx L cu er le nb nc H from ⟨by rw [hv9], by rw [hv9]; exact wst_id hsc hP⟩) rfl hS (Nat.le_of_ble_eq_true rfl) (Nat.le_of_ble_eq_true rfl) dL_change_402
                  · have c_152n := Int32.not_lt.mp c_152
                    refine lv_aload_n hx hb dL_change_371 rfl (lv_at hl 2 rfl) ?_
                    refine lv_iload hx hb dL_change_372 (lv_at hl 8 rfl) ?_
                    refine lv_iconst (v := 3) hx hb dL_change_374 (by decide) ?_
                    refine rn_V S hkx hth (nX5_user l hl0 (sa := sa) (h9 := (fun q h => hA q (Nat.le_trans hS.1 h))) (hP := hP) (hwf := hwf) (hu := (chU_lt (by omega))) (hw := (by omega)) (u := (chU N v)) (w := 3)) gL_change_X5_user rfl idX5_user ⟨Nat.le_of_ble_eq_true rfl, Nat.le_of_ble_eq_true rfl⟩ hP 0 rfl rfl rfl rfl hl.1 rfl (Nat.le_of_ble_eq_true rfl) dL_change_375 ⟨Nat.le_of_ble_eq_true rfl, Nat.le_of_ble_eq_true rfl⟩ (fun v9 hv9 => ?_)
                    subst hv9
                    refine W.eq (g2 := F0 m 378 ls [.int (Z 8 (chU N v))]) rfl ?_
                    refine lv_sipush (v := 900) hx hb dL_change_378 (by decide) ?_
                    refine lv_icmp_ge (tgt := 401) hx hb dL_change_381 (by decide) (fun c_153 => ?_) (fun c_153 => ?_)
                    · have c_153n := Int32.not_lt.mpr c_153
                      refine lv_iconst (v := 0) hx hb dL_change_401 (by decide) ?_
                      have hv9 : chg N Z v w = (0, N, Z) := by rw [hg]; unfold ch7; rw [if_neg (by first | assumption | omega | exact (fun q9 => by first | omega | exact absurd q9.2 (by assumption) | exact absurd q9.2.1 (by assumption) | exact absurd q9.2.2 (by assumption)))]
                      exact hret _ H _ _ _ _ _ (show some (Value.int 0) = some (Value.int ((chg N Z v w).1)) ∧ wst G T q a (chg N Z v w).2.1 (chg N Z v w).2.2 b tx L cu er le nb nc H from ⟨by rw [hv9], by rw [hv9]; exact wst_id hsc hP⟩) rfl hS (Nat.le_of_ble_eq_true rfl) (Nat.le_of_ble_eq_true rfl) dL_change_402
                    · have c_153n := Int32.not_le.mp c_153
                      refine lv_aload_n hx hb dL_change_384 rfl (lv_at hl 2 rfl) ?_
                      refine lv_iload hx hb dL_change_385 (lv_at hl 8 rfl) ?_
                      refine lv_iconst (v := 1) hx hb dL_change_387 (by decide) ?_
                      refine lv_iload_n hx hb dL_change_388 rfl (lv_at hl 4 rfl) ?_
                      refine lv_bipush (v := 99) hx hb dL_change_389 (by decide) ?_
                      refine ro_S S hkx (mL_low l (v := w) (k := 99) (h0 := (by omega)) (hk := (by omega))) gL_change_L_low rfl idL_low.2 ⟨Nat.le_of_ble_eq_true rfl, Nat.le_of_ble_eq_true rfl⟩ rfl hl.1 rfl (Nat.le_of_ble_eq_true rfl) dL_change_391 ⟨Nat.le_of_ble_eq_true rfl, Nat.le_of_ble_eq_true rfl⟩ (fun r9 hr9 => ?_)
                      subst hr9
                      refine W.eq (g2 := F0 m 394 ls [.int (nI (lowN w 99)), .int 1, .int (nI (chU N v)), .ref (q 0)]) rfl ?_
                      refine lv_iadd hx hb dL_change_394 ?_
                      refine W.eq (g2 := F0 m 395 ls [.int (nI (1 + (lowN w 99))), .int (nI (chU N v)), .ref (q 0)]) (congrArg (fun z9 => F0 m 395 ls (.int z9 :: [.int (nI (chU N v)), .ref (q 0)])) (nI_add 1 _)) ?_
                      refine wn_V S hkx hth (nX5_slip l hl0 (sa := sa) (A9 := A) (h9 := (fun q h => hA q (Nat.le_trans hS.1 h))) (hP := hP) (hD := hD.weaken (fun _ _ _ _ => trivial)) (hwf := hwf) (hsc := (by omega)) (hu := (chU_lt (by omega))) (ht1 := (by omega)) (ht := (by omega)) (hp := (pl_u hwf (chU_lt (by omega)) (by assumption)).1) (h9d := (sl_rng hwf (chU_lt (by omega)) (by assumption) (by assumption) (by omega))) (u := (chU N v)) (t := (1 + (lowN w 99)))) gL_change_X5_slip rfl idX5_slip ⟨Nat.le_of_ble_eq_true rfl, Nat.le_of_ble_eq_true rfl⟩ hP 0 rfl rfl rfl rfl hl.1 rfl (Nat.le_of_ble_eq_true rfl) dL_change_395 ⟨Nat.le_of_ble_eq_true rfl, Nat.le_of_ble_eq_true rfl⟩ hS (fr_in hD (fun q h => hA q (Nat.le_trans hS.1 h))) (fun v9 H locs hp9 hz1 hk1 hS => ?_)
                      obtain ⟨rfl, hP⟩ := hp9
                      have hP : va_P G vwCl (wMain T q a N (uSl Z (chU N v) (nI (1 + (lowN w 99)))) (svB sc b) (psh sc M N) (psh sc Y Z) (svC sc) tx L cu er le nb nc) H := hP
                      have hD : va_D A (wMain T q a N (uSl Z (chU N v) (nI (1 + (lowN w 99)))) (svB sc b) (psh sc M N) (psh sc Y Z) (svC sc) tx L cu er le nb nc) := D_perm hD sv_addr
                      have hth := hth0.kept hS.2.1
                      refine W.eq (g2 := F0 m 398 ls [.int (uSl Z (chU N v) (nI (1 + (lowN w 99))) 8 (chU N v))]) rfl ?_
                      refine lv_goto (tgt := 402) hx hb dL_change_398 (by decide) ?_
                      have hv9 : chg N Z v w = ((uSl Z (chU N v) (nI (1 + (lowN w 99))) 8 (chU N v)), N, (uSl Z (chU N v) (nI (1 + (lowN w 99))))) := by rw [hg]; unfold ch7; rw [if_pos (by first | assumption | omega | exact ⟨by first | assumption | omega, by first | assumption | omega⟩ | exact ⟨by first | assumption | omega, by first | assumption | omega, by first | assumption | omega⟩)]
                      exact hret _ H _ _ _ _ _ (show some (Value.int (uSl Z (chU N v) (nI (1 + (lowN w 99))) 8 (chU N v))) = some (Value.int ((chg N Z v w).1)) ∧ wst G T q a (chg N Z v w).2.1 (chg N Z v w).2.2 b tx L cu er le nb nc H from ⟨by rw [hv9], by rw [hv9]; exact wst_sv hsc hP⟩) rfl hS (Nat.le_of_ble_eq_true rfl) (Nat.le_of_ble_eq_true rfl) dL_change_402
              · refine lv_tableIn (off := 311) (tgt := 403) hx hb dL_change_92 (by decide) (by decide) rfl (by decide) ?_
                have hg : chg N Z v w = ch8 N Z v w := by unfold chg; rw [hcz]; rfl
                refine lv_iload_n hx hb dL_change_403 rfl (lv_at hl 5 rfl) ?_
                refine lv_if_le (tgt := 437) hx hb dL_change_404 (by decide) (fun c_154 => ?_) (fun c_154 => ?_)
                · replace c_154 := cn_le (a := (N 0)) (b := 0) (by omega) (by omega) c_154
                  refine lv_iconst (v := 0) hx hb dL_change_437 (by decide) ?_
                  have hv9 : chg N Z v w = (0, N, Z) := by rw [hg]; unfold ch8; rw [if_neg (by first | assumption | omega | exact (fun q9 => by first | omega | exact absurd q9.2 (by assumption) | exact absurd q9.2.1 (by assumption) | exact absurd q9.2.2 (by assumption)))]
                  exact hret _ H _ _ _ _ _ (show some (Value.int 0) = some (Value.int ((chg N Z v w).1)) ∧ wst G T q a (chg N Z v w).2.1 (chg N Z v w).2.2 b tx L cu er le nb nc H from ⟨by rw [hv9], by rw [hv9]; exact wst_id hsc hP⟩) rfl hS (Nat.le_of_ble_eq_true rfl) (Nat.le_of_ble_eq_true rfl) dL_change_438
                · replace c_154 := cn_nle (a := (N 0)) (b := 0) (by omega) (by omega) c_154
                  refine lv_aload_n hx hb dL_change_407 rfl (lv_at hl 2 rfl) ?_
                  refine lv_iload hx hb dL_change_408 (lv_at hl 9 rfl) ?_
                  refine lv_iconst (v := 1) hx hb dL_change_410 (by decide) ?_
                  refine rn_V S hkx hth (nX5_version l hl0 (sa := sa) (h9 := (fun q h => hA q (Nat.le_trans hS.1 h))) (hP := hP) (hwf := hwf) (hv := (chA_lt (by omega))) (hw := (by omega)) (v := (chA N v)) (w := 1)) gL_change_X5_version rfl idX5_version ⟨Nat.le_of_ble_eq_true rfl, Nat.le_of_ble_eq_true rfl⟩ hP 0 rfl rfl rfl rfl hl.1 rfl (Nat.le_of_ble_eq_true rfl) dL_change_411 ⟨Nat.le_of_ble_eq_true rfl, Nat.le_of_ble_eq_true rfl⟩ (fun v9 hv9 => ?_)
                  subst hv9
                  refine W.eq (g2 := F0 m 414 ls [.int (Z 2 (chA N v))]) rfl ?_
                  refine lv_sipush (v := 900) hx hb dL_change_414 (by decide) ?_
                  refine lv_icmp_ge (tgt := 437) hx hb dL_change_417 (by decide) (fun c_155 => ?_) (fun c_155 => ?_)
                  · have c_155n := Int32.not_lt.mpr c_155
                    refine lv_iconst (v := 0) hx hb dL_change_437 (by decide) ?_
                    have hv9 : chg N Z v w = (0, N, Z) := by rw [hg]; unfold ch8; rw [if_neg (by first | assumption | omega | exact (fun q9 => by first | omega | exact absurd q9.2 (by assumption) | exact absurd q9.2.1 (by assumption) | exact absurd q9.2.2 (by assumption)))]
                    exact hret _ H _ _ _ _ _ (show some (Value.int 0) = some (Value.int ((chg N Z v w).1)) ∧ wst G T q a (chg N Z v w).2.1 (chg N Z v w).2.2 b tx L cu er le nb nc H from ⟨by rw [hv9], by rw [hv9]; exact wst_id hsc hP⟩) rfl hS (Nat.le_of_ble_eq_true rfl) (Nat.le_of_ble_eq_true rfl) dL_change_438
                  · have c_155n := Int32.not_le.mp c_155
                    refine lv_aload_n hx hb dL_change_420 rfl (lv_at hl 2 rfl) ?_
                    refine lv_iload hx hb dL_change_421 (lv_at hl 9 rfl) ?_
                    refine lv_iconst (v := 1) hx hb dL_change_423 (by decide) ?_
                    refine lv_iload_n hx hb dL_change_424 rfl (lv_at hl 4 rfl) ?_
                    refine lv_bipush (v := 99) hx hb dL_change_425 (by decide) ?_
                    refine ro_S S hkx (mL_low l (v := w) (k := 99) (h0 := (by omega)) (hk := (by omega))) gL_change_L_low rfl idL_low.2 ⟨Nat.le_of_ble_eq_true rfl, Nat.le_of_ble_eq_true rfl⟩ rfl hl.1 rfl (Nat.le_of_ble_eq_true rfl) dL_change_427 ⟨Nat.le_of_ble_eq_true rfl, Nat.le_of_ble_eq_true rfl⟩ (fun r9 hr9 => ?_)
                    subst hr9
                    refine W.eq (g2 := F0 m 430 ls [.int (nI (lowN w 99)), .int 1, .int (nI (chA N v)), .ref (q 0)]) rfl ?_
                    refine lv_iadd hx hb dL_change_430 ?_
                    refine W.eq (g2 := F0 m 431 ls [.int (nI (1 + (lowN w 99))), .int (nI (chA N v)), .ref (q 0)]) (congrArg (fun z9 => F0 m 431 ls (.int z9 :: [.int (nI (chA N v)), .ref (q 0)])) (nI_add 1 _)) ?_
                    refine wn_V S hkx hth (nX5_extend l hl0 (sa := sa) (A9 := A) (h9 := (fun q h => hA q (Nat.le_trans hS.1 h))) (hP := hP) (hD := hD.weaken (fun _ _ _ _ => trivial)) (hwf := hwf) (hsc := (by omega)) (hv := (chA_lt (by omega))) (ht1 := (by omega)) (ht := (by omega)) (h9d := (ex_rng hwf (chA_lt (by omega)) (by assumption) (by omega))) (v := (chA N v)) (t := (1 + (lowN w 99)))) gL_change_X5_extend rfl idX5_extend ⟨Nat.le_of_ble_eq_true rfl, Nat.le_of_ble_eq_true rfl⟩ hP 0 rfl rfl rfl rfl hl.1 rfl (Nat.le_of_ble_eq_true rfl) dL_change_431 ⟨Nat.le_of_ble_eq_true rfl, Nat.le_of_ble_eq_true rfl⟩ hS (fr_in hD (fun q h => hA q (Nat.le_trans hS.1 h))) (fun v9 H locs hp9 hz1 hk1 hS => ?_)
                    obtain ⟨rfl, hP⟩ := hp9
                    have hP : va_P G vwCl (wMain T q a N (vExt Z (chA N v) (nI (1 + (lowN w 99)))) (svB sc b) (psh sc M N) (psh sc Y Z) (svC sc) tx L cu er le nb nc) H := hP
                    have hD : va_D A (wMain T q a N (vExt Z (chA N v) (nI (1 + (lowN w 99)))) (svB sc b) (psh sc M N) (psh sc Y Z) (svC sc) tx L cu er le nb nc) := D_perm hD sv_addr
                    have hth := hth0.kept hS.2.1
                    refine W.eq (g2 := F0 m 434 ls [.int (vExt Z (chA N v) (nI (1 + (lowN w 99))) 2 (chA N v))]) rfl ?_
                    refine lv_goto (tgt := 438) hx hb dL_change_434 (by decide) ?_
                    have hv9 : chg N Z v w = ((vExt Z (chA N v) (nI (1 + (lowN w 99))) 2 (chA N v)), N, (vExt Z (chA N v) (nI (1 + (lowN w 99))))) := by rw [hg]; unfold ch8; rw [if_pos (by first | assumption | omega | exact ⟨by first | assumption | omega, by first | assumption | omega⟩ | exact ⟨by first | assumption | omega, by first | assumption | omega, by first | assumption | omega⟩)]
                    exact hret _ H _ _ _ _ _ (show some (Value.int (vExt Z (chA N v) (nI (1 + (lowN w 99))) 2 (chA N v))) = some (Value.int ((chg N Z v w).1)) ∧ wst G T q a (chg N Z v w).2.1 (chg N Z v w).2.2 b tx L cu er le nb nc H from ⟨by rw [hv9], by rw [hv9]; exact wst_sv hsc hP⟩) rfl hS (Nat.le_of_ble_eq_true rfl) (Nat.le_of_ble_eq_true rfl) dL_change_438
              · refine lv_tableIn (off := 347) (tgt := 439) hx hb dL_change_92 (by decide) (by decide) rfl (by decide) ?_
                have hg : chg N Z v w = ch9 N Z v w := by unfold chg; rw [hcz]; rfl
                refine lv_iload_n hx hb dL_change_439 rfl (lv_at hl 4 rfl) ?_
                refine lv_sipush (v := 600) hx hb dL_change_440 (by decide) ?_
                refine ro_S S hkx (mL_low l (v := w) (k := 600) (h0 := (by omega)) (hk := (by omega))) gL_change_L_low rfl idL_low.2 ⟨Nat.le_of_ble_eq_true rfl, Nat.le_of_ble_eq_true rfl⟩ rfl hl.1 rfl (Nat.le_of_ble_eq_true rfl) dL_change_443 ⟨Nat.le_of_ble_eq_true rfl, Nat.le_of_ble_eq_true rfl⟩ (fun r9 hr9 => ?_)
                subst hr9
                refine W.eq (g2 := F0 m 446 ls [.int (nI (lowN w 600))]) rfl ?_
                refine lv_istore (lv' := [(10, .int (nI (lowN w 600))), (9, .int (nI (lowN w 200))), (8, .int (nI (chF N v))), (0, .ref (q 0)), (1, .int v), (2, .int w), (3, .int (nI (N 0))), (4, .int (nI (N 1))), (5, .int (nI (N 2))), (6, .int (nI (chU N v))), (7, .int (nI (chA N v)))]) hx hb dL_change_446 hl (by decide) rfl (fun ls hl => ?_)
                refine lv_iload_n hx hb dL_change_448 rfl (lv_at hl 6 rfl) ?_
                refine lv_if_le (tgt := 506) hx hb dL_change_449 (by decide) (fun c_156 => ?_) (fun c_156 => ?_)
                · replace c_156 := cn_le (a := (N 0)) (b := 0) (by omega) (by omega) c_156
                  refine lv_iconst (v := 0) hx hb dL_change_506 (by decide) ?_
                  have hv9 : chg N Z v w = (0, N, Z) := by rw [hg]; unfold ch9; rw [if_neg (by first | assumption | omega | exact (fun q9 => by first | omega | exact absurd q9.2 (by assumption) | exact absurd q9.2.1 (by assumption) | exact absurd q9.2.2 (by assumption)))]
                  exact hret _ H _ _ _ _ _ (show some (Value.int 0) = some (Value.int ((chg N Z v w).1)) ∧ wst G T q a (chg N Z v w).2.1 (chg N Z v w).2.2 b tx L cu er le nb nc H from ⟨by rw [hv9], by rw [hv9]; exact wst_id hsc hP⟩) rfl hS (Nat.le_of_ble_eq_true rfl) (Nat.le_of_ble_eq_true rfl) dL_change_507
                · replace c_156 := cn_nle (a := (N 0)) (b := 0) (by omega) (by omega) c_156
                  refine lv_iload hx hb dL_change_452 (lv_at hl 7 rfl) ?_
                  refine lv_if_le (tgt := 506) hx hb dL_change_454 (by decide) (fun c_157 => ?_) (fun c_157 => ?_)
                  · replace c_157 := cn_le (a := (N 1)) (b := 0) (by omega) (by omega) c_157
                    refine lv_iconst (v := 0) hx hb dL_change_506 (by decide) ?_
                    have hv9 : chg N Z v w = (0, N, Z) := by rw [hg]; unfold ch9; rw [if_neg (by first | assumption | omega | exact (fun q9 => by first | omega | exact absurd q9.2 (by assumption) | exact absurd q9.2.1 (by assumption) | exact absurd q9.2.2 (by assumption)))]
                    exact hret _ H _ _ _ _ _ (show some (Value.int 0) = some (Value.int ((chg N Z v w).1)) ∧ wst G T q a (chg N Z v w).2.1 (chg N Z v w).2.2 b tx L cu er le nb nc H from ⟨by rw [hv9], by rw [hv9]; exact wst_id hsc hP⟩) rfl hS (Nat.le_of_ble_eq_true rfl) (Nat.le_of_ble_eq_true rfl) dL_change_507
                  · replace c_157 := cn_nle (a := (N 1)) (b := 0) (by omega) (by omega) c_157
                    refine lv_aload_n hx hb dL_change_457 rfl (lv_at hl 3 rfl) ?_
                    refine lv_iconst (v := 3) hx hb dL_change_458 (by decide) ?_
                    refine rn_V S hkx hth (nX5_value l hl0 (sa := sa) (h9 := (fun q h => hA q (Nat.le_trans hS.1 h))) (hP := hP) (hwf := hwf) (hw := (by omega)) (w := 3)) gL_change_X5_value rfl idX5_value ⟨Nat.le_of_ble_eq_true rfl, Nat.le_of_ble_eq_true rfl⟩ hP 0 rfl rfl rfl rfl hl.1 rfl (Nat.le_of_ble_eq_true rfl) dL_change_459 ⟨Nat.le_of_ble_eq_true rfl, Nat.le_of_ble_eq_true rfl⟩ (fun v9 hv9 => ?_)
                    subst hv9
                    refine W.eq (g2 := F0 m 462 ls [.int (nI (N 3))]) rfl ?_
                    refine lv_bipush (v := 6) hx hb dL_change_462 (by decide) ?_
                    refine lv_icmp_ge (tgt := 506) hx hb dL_change_464 (by decide) (fun c_158 => ?_) (fun c_158 => ?_)
                    · replace c_158 := cn_le (a := 6) (b := (N 3)) (by omega) (by omega) c_158
                      refine lv_iconst (v := 0) hx hb dL_change_506 (by decide) ?_
                      have hv9 : chg N Z v w = (0, N, Z) := by rw [hg]; unfold ch9; rw [if_neg (by first | assumption | omega | exact (fun q9 => by first | omega | exact absurd q9.2 (by assumption) | exact absurd q9.2.1 (by assumption) | exact absurd q9.2.2 (by assumption)))]
                      exact hret _ H _ _ _ _ _ (show some (Value.int 0) = some (Value.int ((chg N Z v w).1)) ∧ wst G T q a (chg N Z v w).2.1 (chg N Z v w).2.2 b tx L cu er le nb nc H from ⟨by rw [hv9], by rw [hv9]; exact wst_id hsc hP⟩) rfl hS (Nat.le_of_ble_eq_true rfl) (Nat.le_of_ble_eq_true rfl) dL_change_507
                    · replace c_158 := cn_nle (a := 6) (b := (N 3)) (by omega) (by omega) c_158
                      refine lv_aload_n hx hb dL_change_467 rfl (lv_at hl 3 rfl) ?_
                      refine lv_iload hx hb dL_change_468 (lv_at hl 2 rfl) ?_
                      refine lv_iload hx hb dL_change_470 (lv_at hl 10 rfl) ?_
                      refine lv_iload hx hb dL_change_472 (lv_at hl 0 rfl) ?_
                      refine lv_iload hx hb dL_change_474 (lv_at hl 0 rfl) ?_
                      refine lv_iload_n hx hb dL_change_476 rfl (lv_at hl 5 rfl) ?_
                      refine lv_bipush (v := 10) hx hb dL_change_477 (by decide) ?_
                      refine lv_ishr hx hb dL_change_479 ?_
                      refine lv_sipush (v := 1000) hx hb dL_change_480 (by decide) ?_
                      refine lv_iload hx hb dL_change_483 (lv_at hl 0 rfl) ?_
                      refine lv_isub hx hb dL_change_485 ?_
                      refine W.eq (g2 := F0 m 486 ls [.int (nI (1000 - (lowN w 600))), .int (w >>> (10 &&& 31)), .int (nI (lowN w 600)), .int (nI (lowN w 600)), .int (nI (chA N v)), .int (nI (chF N v)), .ref (q 0)]) (congrArg (fun z9 => F0 m 486 ls (.int z9 :: [.int (w >>> (10 &&& 31)), .int (nI (lowN w 600)), .int (nI (lowN w 600)), .int (nI (chA N v)), .int (nI (chF N v)), .ref (q 0)])) (pk_sub (a := 1000) (b := (lowN w 600)) (by omega))) ?_
                      refine ro_S S hkx (mL_low l (v := (w >>> (10 &&& 31))) (k := (1000 - (lowN w 600))) (h0 := (by omega)) (hk := (by omega))) gL_change_L_low rfl idL_low.2 ⟨Nat.le_of_ble_eq_true rfl, Nat.le_of_ble_eq_true rfl⟩ rfl hl.1 rfl (Nat.le_of_ble_eq_true rfl) dL_change_486 ⟨Nat.le_of_ble_eq_true rfl, Nat.le_of_ble_eq_true rfl⟩ (fun r9 hr9 => ?_)
                      subst hr9
                      refine W.eq (g2 := F0 m 489 ls [.int (nI (lowN (w >>> (10 &&& 31)) (1000 - (lowN w 600)))), .int (nI (lowN w 600)), .int (nI (lowN w 600)), .int (nI (chA N v)), .int (nI (chF N v)), .ref (q 0)]) rfl ?_
                      refine lv_iadd hx hb dL_change_489 ?_
                      refine W.eq (g2 := F0 m 490 ls [.int (nI ((lowN w 600) + (lowN (w >>> (10 &&& 31)) (1000 - (lowN w 600))))), .int (nI (lowN w 600)), .int (nI (chA N v)), .int (nI (chF N v)), .ref (q 0)]) (congrArg (fun z9 => F0 m 490 ls (.int z9 :: [.int (nI (lowN w 600)), .int (nI (chA N v)), .int (nI (chF N v)), .ref (q 0)])) (nI_add _ _)) ?_
                      refine lv_iconst (v := 1) hx hb dL_change_490 (by decide) ?_
                      refine lv_iload_n hx hb dL_change_491 rfl (lv_at hl 5 rfl) ?_
                      refine lv_iconst (v := 4) hx hb dL_change_492 (by decide) ?_
                      refine lv_ishr hx hb dL_change_493 ?_
                      refine lv_bipush (v := 99) hx hb dL_change_494 (by decide) ?_
                      refine ro_S S hkx (mL_low l (v := (w >>> (4 &&& 31))) (k := 99) (h0 := (by omega)) (hk := (by omega))) gL_change_L_low rfl idL_low.2 ⟨Nat.le_of_ble_eq_true rfl, Nat.le_of_ble_eq_true rfl⟩ rfl hl.1 rfl (Nat.le_of_ble_eq_true rfl) dL_change_496 ⟨Nat.le_of_ble_eq_true rfl, Nat.le_of_ble_eq_true rfl⟩ (fun r9 hr9 => ?_)
                      subst hr9
                      refine W.eq (g2 := F0 m 499 ls [.int (nI (lowN (w >>> (4 &&& 31)) 99)), .int 1, .int (nI ((lowN w 600) + (lowN (w >>> (10 &&& 31)) (1000 - (lowN w 600))))), .int (nI (lowN w 600)), .int (nI (chA N v)), .int (nI (chF N v)), .ref (q 0)]) rfl ?_
                      refine lv_iadd hx hb dL_change_499 ?_
                      refine W.eq (g2 := F0 m 500 ls [.int (nI (1 + (lowN (w >>> (4 &&& 31)) 99))), .int (nI ((lowN w 600) + (lowN (w >>> (10 &&& 31)) (1000 - (lowN w 600))))), .int (nI (lowN w 600)), .int (nI (chA N v)), .int (nI (chF N v)), .ref (q 0)]) (congrArg (fun z9 => F0 m 500 ls (.int z9 :: [.int (nI ((lowN w 600) + (lowN (w >>> (10 &&& 31)) (1000 - (lowN w 600))))), .int (nI (lowN w 600)), .int (nI (chA N v)), .int (nI (chF N v)), .ref (q 0)])) (nI_add 1 _)) ?_
                      refine wn_V S hkx hth (nX5_addShim l hl0 (sa := sa) (A9 := A) (h9 := (fun q h => hA q (Nat.le_trans hS.1 h))) (hP := hP) (hD := hD.weaken (fun _ _ _ _ => trivial)) (hwf := hwf) (hsc := (by omega)) (hf := (chF_lt (by omega))) (hv := (chA_lt (by omega))) (hx := (by omega)) (hz := (by omega)) (hy1 := (by omega)) (hy := (by omega)) (h8 := (by omega)) (f := (chF N v)) (v := (chA N v)) (x := (lowN w 600)) (z := ((lowN w 600) + (lowN (w >>> (10 &&& 31)) (1000 - (lowN w 600))))) (y := (1 + (lowN (w >>> (4 &&& 31)) 99)))) gL_change_X5_addShim rfl idX5_addShim ⟨Nat.le_of_ble_eq_true rfl, Nat.le_of_ble_eq_true rfl⟩ hP 0 rfl rfl rfl rfl hl.1 rfl (Nat.le_of_ble_eq_true rfl) dL_change_500 ⟨Nat.le_of_ble_eq_true rfl, Nat.le_of_ble_eq_true rfl⟩ hS (fr_in hD (fun q h => hA q (Nat.le_trans hS.1 h))) (fun v9 H locs hp9 hz1 hk1 hS => ?_)
                      obtain ⟨rfl, hP⟩ := hp9
                      have hP : va_P G vwCl (wMain T q a (va_up N 3 (N 3 + 1)) (sAdd N Z (nI (chF N v)) (nI (chA N v)) (nI (lowN w 600)) (nI ((lowN w 600) + (lowN (w >>> (10 &&& 31)) (1000 - (lowN w 600))))) (nI (1 + (lowN (w >>> (4 &&& 31)) 99)))) (svB sc b) (psh sc M N) (psh sc Y Z) (svC sc) tx L cu er le nb nc) H := hP
                      have hD : va_D A (wMain T q a (va_up N 3 (N 3 + 1)) (sAdd N Z (nI (chF N v)) (nI (chA N v)) (nI (lowN w 600)) (nI ((lowN w 600) + (lowN (w >>> (10 &&& 31)) (1000 - (lowN w 600))))) (nI (1 + (lowN (w >>> (4 &&& 31)) 99)))) (svB sc b) (psh sc M N) (psh sc Y Z) (svC sc) tx L cu er le nb nc) := D_perm hD sv_addr
                      have hth := hth0.kept hS.2.1
                      refine W.eq (g2 := F0 m 503 ls [.int (nI (N 3))]) rfl ?_
                      refine lv_goto (tgt := 507) hx hb dL_change_503 (by decide) ?_
                      have hv9 : chg N Z v w = ((nI (N 3)), (va_up N 3 (N 3 + 1)), (sAdd N Z (nI (chF N v)) (nI (chA N v)) (nI (lowN w 600)) (nI ((lowN w 600) + (lowN (w >>> (10 &&& 31)) (1000 - (lowN w 600))))) (nI (1 + (lowN (w >>> (4 &&& 31)) 99))))) := by rw [hg]; unfold ch9; rw [if_pos (by first | assumption | omega | exact ⟨by first | assumption | omega, by first | assumption | omega⟩ | exact ⟨by first | assumption | omega, by first | assumption | omega, by first | assumption | omega⟩)]
                      exact hret _ H _ _ _ _ _ (show some (Value.int (nI (N 3))) = some (Value.int ((chg N Z v w).1)) ∧ wst G T q a (chg N Z v w).2.1 (chg N Z v w).2.2 b tx L cu er le nb nc H from ⟨by rw [hv9], by rw [hv9]; exact wst_sv hsc hP⟩) rfl hS (Nat.le_of_ble_eq_true rfl) (Nat.le_of_ble_eq_true rfl) dL_change_507
              · refine lv_tableIn (off := 347) (tgt := 439) hx hb dL_change_92 (by decide) (by decide) rfl (by decide) ?_
                have hg : chg N Z v w = ch9 N Z v w := by unfold chg; rw [hcz]; rfl
                refine lv_iload_n hx hb dL_change_439 rfl (lv_at hl 4 rfl) ?_
                refine lv_sipush (v := 600) hx hb dL_change_440 (by decide) ?_
                refine ro_S S hkx (mL_low l (v := w) (k := 600) (h0 := (by omega)) (hk := (by omega))) gL_change_L_low rfl idL_low.2 ⟨Nat.le_of_ble_eq_true rfl, Nat.le_of_ble_eq_true rfl⟩ rfl hl.1 rfl (Nat.le_of_ble_eq_true rfl) dL_change_443 ⟨Nat.le_of_ble_eq_true rfl, Nat.le_of_ble_eq_true rfl⟩ (fun r9 hr9 => ?_)
                subst hr9
                refine W.eq (g2 := F0 m 446 ls [.int (nI (lowN w 600))]) rfl ?_
                refine lv_istore (lv' := [(10, .int (nI (lowN w 600))), (9, .int (nI (lowN w 200))), (8, .int (nI (chF N v))), (0, .ref (q 0)), (1, .int v), (2, .int w), (3, .int (nI (N 0))), (4, .int (nI (N 1))), (5, .int (nI (N 2))), (6, .int (nI (chU N v))), (7, .int (nI (chA N v)))]) hx hb dL_change_446 hl (by decide) rfl (fun ls hl => ?_)
                refine lv_iload_n hx hb dL_change_448 rfl (lv_at hl 6 rfl) ?_
                refine lv_if_le (tgt := 506) hx hb dL_change_449 (by decide) (fun c_159 => ?_) (fun c_159 => ?_)
                · replace c_159 := cn_le (a := (N 0)) (b := 0) (by omega) (by omega) c_159
                  refine lv_iconst (v := 0) hx hb dL_change_506 (by decide) ?_
                  have hv9 : chg N Z v w = (0, N, Z) := by rw [hg]; unfold ch9; rw [if_neg (by first | assumption | omega | exact (fun q9 => by first | omega | exact absurd q9.2 (by assumption) | exact absurd q9.2.1 (by assumption) | exact absurd q9.2.2 (by assumption)))]
                  exact hret _ H _ _ _ _ _ (show some (Value.int 0) = some (Value.int ((chg N Z v w).1)) ∧ wst G T q a (chg N Z v w).2.1 (chg N Z v w).2.2 b tx L cu er le nb nc H from ⟨by rw [hv9], by rw [hv9]; exact wst_id hsc hP⟩) rfl hS (Nat.le_of_ble_eq_true rfl) (Nat.le_of_ble_eq_true rfl) dL_change_507
                · replace c_159 := cn_nle (a := (N 0)) (b := 0) (by omega) (by omega) c_159
                  refine lv_iload hx hb dL_change_452 (lv_at hl 7 rfl) ?_
                  refine lv_if_le (tgt := 506) hx hb dL_change_454 (by decide) (fun c_160 => ?_) (fun c_160 => ?_)
                  · replace c_160 := cn_le (a := (N 1)) (b := 0) (by omega) (by omega) c_160
                    refine lv_iconst (v := 0) hx hb dL_change_506 (by decide) ?_
                    have hv9 : chg N Z v w = (0, N, Z) := by rw [hg]; unfold ch9; rw [if_neg (by first | assumption | omega | exact (fun q9 => by first | omega | exact absurd q9.2 (by assumption) | exact absurd q9.2.1 (by assumption) | exact absurd q9.2.2 (by assumption)))]
                    exact hret _ H _ _ _ _ _ (show some (Value.int 0) = some (Value.int ((chg N Z v w).1)) ∧ wst G T q a (chg N Z v w).2.1 (chg N Z v w).2.2 b tx L cu er le nb nc H from ⟨by rw [hv9], by rw [hv9]; exact wst_id hsc hP⟩) rfl hS (Nat.le_of_ble_eq_true rfl) (Nat.le_of_ble_eq_true rfl) dL_change_507
                  · replace c_160 := cn_nle (a := (N 1)) (b := 0) (by omega) (by omega) c_160
                    refine lv_aload_n hx hb dL_change_457 rfl (lv_at hl 3 rfl) ?_
                    refine lv_iconst (v := 3) hx hb dL_change_458 (by decide) ?_
                    refine rn_V S hkx hth (nX5_value l hl0 (sa := sa) (h9 := (fun q h => hA q (Nat.le_trans hS.1 h))) (hP := hP) (hwf := hwf) (hw := (by omega)) (w := 3)) gL_change_X5_value rfl idX5_value ⟨Nat.le_of_ble_eq_true rfl, Nat.le_of_ble_eq_true rfl⟩ hP 0 rfl rfl rfl rfl hl.1 rfl (Nat.le_of_ble_eq_true rfl) dL_change_459 ⟨Nat.le_of_ble_eq_true rfl, Nat.le_of_ble_eq_true rfl⟩ (fun v9 hv9 => ?_)
                    subst hv9
                    refine W.eq (g2 := F0 m 462 ls [.int (nI (N 3))]) rfl ?_
                    refine lv_bipush (v := 6) hx hb dL_change_462 (by decide) ?_
                    refine lv_icmp_ge (tgt := 506) hx hb dL_change_464 (by decide) (fun c_161 => ?_) (fun c_161 => ?_)
                    · replace c_161 := cn_le (a := 6) (b := (N 3)) (by omega) (by omega) c_161
                      refine lv_iconst (v := 0) hx hb dL_change_506 (by decide) ?_
                      have hv9 : chg N Z v w = (0, N, Z) := by rw [hg]; unfold ch9; rw [if_neg (by first | assumption | omega | exact (fun q9 => by first | omega | exact absurd q9.2 (by assumption) | exact absurd q9.2.1 (by assumption) | exact absurd q9.2.2 (by assumption)))]
                      exact hret _ H _ _ _ _ _ (show some (Value.int 0) = some (Value.int ((chg N Z v w).1)) ∧ wst G T q a (chg N Z v w).2.1 (chg N Z v w).2.2 b tx L cu er le nb nc H from ⟨by rw [hv9], by rw [hv9]; exact wst_id hsc hP⟩) rfl hS (Nat.le_of_ble_eq_true rfl) (Nat.le_of_ble_eq_true rfl) dL_change_507
                    · replace c_161 := cn_nle (a := 6) (b := (N 3)) (by omega) (by omega) c_161
                      refine lv_aload_n hx hb dL_change_467 rfl (lv_at hl 3 rfl) ?_
                      refine lv_iload hx hb dL_change_468 (lv_at hl 2 rfl) ?_
                      refine lv_iload hx hb dL_change_470 (lv_at hl 10 rfl) ?_
                      refine lv_iload hx hb dL_change_472 (lv_at hl 0 rfl) ?_
                      refine lv_iload hx hb dL_change_474 (lv_at hl 0 rfl) ?_
                      refine lv_iload_n hx hb dL_change_476 rfl (lv_at hl 5 rfl) ?_
                      refine lv_bipush (v := 10) hx hb dL_change_477 (by decide) ?_
                      refine lv_ishr hx hb dL_change_479 ?_
                      refine lv_sipush (v := 1000) hx hb dL_change_480 (by decide) ?_
                      refine lv_iload hx hb dL_change_483 (lv_at hl 0 rfl) ?_
                      refine lv_isub hx hb dL_change_485 ?_
                      refine W.eq (g2 := F0 m 486 ls [.int (nI (1000 - (lowN w 600))), .int (w >>> (10 &&& 31)), .int (nI (lowN w 600)), .int (nI (lowN w 600)), .int (nI (chA N v)), .int (nI (chF N v)), .ref (q 0)]) (congrArg (fun z9 => F0 m 486 ls (.int z9 :: [.int (w >>> (10 &&& 31)), .int (nI (lowN w 600)), .int (nI (lowN w 600)), .int (nI (chA N v)), .int (nI (chF N v)), .ref (q 0)])) (pk_sub (a := 1000) (b := (lowN w 600)) (by omega))) ?_
                      refine ro_S S hkx (mL_low l (v := (w >>> (10 &&& 31))) (k := (1000 - (lowN w 600))) (h0 := (by omega)) (hk := (by omega))) gL_change_L_low rfl idL_low.2 ⟨Nat.le_of_ble_eq_true rfl, Nat.le_of_ble_eq_true rfl⟩ rfl hl.1 rfl (Nat.le_of_ble_eq_true rfl) dL_change_486 ⟨Nat.le_of_ble_eq_true rfl, Nat.le_of_ble_eq_true rfl⟩ (fun r9 hr9 => ?_)
                      subst hr9
                      refine W.eq (g2 := F0 m 489 ls [.int (nI (lowN (w >>> (10 &&& 31)) (1000 - (lowN w 600)))), .int (nI (lowN w 600)), .int (nI (lowN w 600)), .int (nI (chA N v)), .int (nI (chF N v)), .ref (q 0)]) rfl ?_
                      refine lv_iadd hx hb dL_change_489 ?_
                      refine W.eq (g2 := F0 m 490 ls [.int (nI ((lowN w 600) + (lowN (w >>> (10 &&& 31)) (1000 - (lowN w 600))))), .int (nI (lowN w 600)), .int (nI (chA N v)), .int (nI (chF N v)), .ref (q 0)]) (congrArg (fun z9 => F0 m 490 ls (.int z9 :: [.int (nI (lowN w 600)), .int (nI (chA N v)), .int (nI (chF N v)), .ref (q 0)])) (nI_add _ _)) ?_
                      refine lv_iconst (v := 1) hx hb dL_change_490 (by decide) ?_
                      refine lv_iload_n hx hb dL_change_491 rfl (lv_at hl 5 rfl) ?_
                      refine lv_iconst (v := 4) hx hb dL_change_492 (by decide) ?_
                      refine lv_ishr hx hb dL_change_493 ?_
                      refine lv_bipush (v := 99) hx hb dL_change_494 (by decide) ?_
                      refine ro_S S hkx (mL_low l (v := (w >>> (4 &&& 31))) (k := 99) (h0 := (by omega)) (hk := (by omega))) gL_change_L_low rfl idL_low.2 ⟨Nat.le_of_ble_eq_true rfl, Nat.le_of_ble_eq_true rfl⟩ rfl hl.1 rfl (Nat.le_of_ble_eq_true rfl) dL_change_496 ⟨Nat.le_of_ble_eq_true rfl, Nat.le_of_ble_eq_true rfl⟩ (fun r9 hr9 => ?_)
                      subst hr9
                      refine W.eq (g2 := F0 m 499 ls [.int (nI (lowN (w >>> (4 &&& 31)) 99)), .int 1, .int (nI ((lowN w 600) + (lowN (w >>> (10 &&& 31)) (1000 - (lowN w 600))))), .int (nI (lowN w 600)), .int (nI (chA N v)), .int (nI (chF N v)), .ref (q 0)]) rfl ?_
                      refine lv_iadd hx hb dL_change_499 ?_
                      refine W.eq (g2 := F0 m 500 ls [.int (nI (1 + (lowN (w >>> (4 &&& 31)) 99))), .int (nI ((lowN w 600) + (lowN (w >>> (10 &&& 31)) (1000 - (lowN w 600))))), .int (nI (lowN w 600)), .int (nI (chA N v)), .int (nI (chF N v)), .ref (q 0)]) (congrArg (fun z9 => F0 m 500 ls (.int z9 :: [.int (nI ((lowN w 600) + (lowN (w >>> (10 &&& 31)) (1000 - (lowN w 600))))), .int (nI (lowN w 600)), .int (nI (chA N v)), .int (nI (chF N v)), .ref (q 0)])) (nI_add 1 _)) ?_
                      refine wn_V S hkx hth (nX5_addShim l hl0 (sa := sa) (A9 := A) (h9 := (fun q h => hA q (Nat.le_trans hS.1 h))) (hP := hP) (hD := hD.weaken (fun _ _ _ _ => trivial)) (hwf := hwf) (hsc := (by omega)) (hf := (chF_lt (by omega))) (hv := (chA_lt (by omega))) (hx := (by omega)) (hz := (by omega)) (hy1 := (by omega)) (hy := (by omega)) (h8 := (by omega)) (f := (chF N v)) (v := (chA N v)) (x := (lowN w 600)) (z := ((lowN w 600) + (lowN (w >>> (10 &&& 31)) (1000 - (lowN w 600))))) (y := (1 + (lowN (w >>> (4 &&& 31)) 99)))) gL_change_X5_addShim rfl idX5_addShim ⟨Nat.le_of_ble_eq_true rfl, Nat.le_of_ble_eq_true rfl⟩ hP 0 rfl rfl rfl rfl hl.1 rfl (Nat.le_of_ble_eq_true rfl) dL_change_500 ⟨Nat.le_of_ble_eq_true rfl, Nat.le_of_ble_eq_true rfl⟩ hS (fr_in hD (fun q h => hA q (Nat.le_trans hS.1 h))) (fun v9 H locs hp9 hz1 hk1 hS => ?_)
                      obtain ⟨rfl, hP⟩ := hp9
                      have hP : va_P G vwCl (wMain T q a (va_up N 3 (N 3 + 1)) (sAdd N Z (nI (chF N v)) (nI (chA N v)) (nI (lowN w 600)) (nI ((lowN w 600) + (lowN (w >>> (10 &&& 31)) (1000 - (lowN w 600))))) (nI (1 + (lowN (w >>> (4 &&& 31)) 99)))) (svB sc b) (psh sc M N) (psh sc Y Z) (svC sc) tx L cu er le nb nc) H := hP
                      have hD : va_D A (wMain T q a (va_up N 3 (N 3 + 1)) (sAdd N Z (nI (chF N v)) (nI (chA N v)) (nI (lowN w 600)) (nI ((lowN w 600) + (lowN (w >>> (10 &&& 31)) (1000 - (lowN w 600))))) (nI (1 + (lowN (w >>> (4 &&& 31)) 99)))) (svB sc b) (psh sc M N) (psh sc Y Z) (svC sc) tx L cu er le nb nc) := D_perm hD sv_addr
                      have hth := hth0.kept hS.2.1
                      refine W.eq (g2 := F0 m 503 ls [.int (nI (N 3))]) rfl ?_
                      refine lv_goto (tgt := 507) hx hb dL_change_503 (by decide) ?_
                      have hv9 : chg N Z v w = ((nI (N 3)), (va_up N 3 (N 3 + 1)), (sAdd N Z (nI (chF N v)) (nI (chA N v)) (nI (lowN w 600)) (nI ((lowN w 600) + (lowN (w >>> (10 &&& 31)) (1000 - (lowN w 600))))) (nI (1 + (lowN (w >>> (4 &&& 31)) 99))))) := by rw [hg]; unfold ch9; rw [if_pos (by first | assumption | omega | exact ⟨by first | assumption | omega, by first | assumption | omega⟩ | exact ⟨by first | assumption | omega, by first | assumption | omega, by first | assumption | omega⟩)]
                      exact hret _ H _ _ _ _ _ (show some (Value.int (nI (N 3))) = some (Value.int ((chg N Z v w).1)) ∧ wst G T q a (chg N Z v w).2.1 (chg N Z v w).2.2 b tx L cu er le nb nc H from ⟨by rw [hv9], by rw [hv9]; exact wst_sv hsc hP⟩) rfl hS (Nat.le_of_ble_eq_true rfl) (Nat.le_of_ble_eq_true rfl) dL_change_507
              · refine lv_tableOut (tgt := 508) hx hb dL_change_92 (Or.inr (by decide)) (by decide) ?_
                have hg : chg N Z v w = chB N Z w := by unfold chg; rw [hcz]; rfl
                refine lv_aload_n hx hb dL_change_508 rfl (lv_at hl 2 rfl) ?_
                refine lv_iconst (v := 3) hx hb dL_change_509 (by decide) ?_
                refine rn_V S hkx hth (nX5_value l hl0 (sa := sa) (h9 := (fun q h => hA q (Nat.le_trans hS.1 h))) (hP := hP) (hwf := hwf) (hw := (by omega)) (w := 3)) gL_change_X5_value rfl idX5_value ⟨Nat.le_of_ble_eq_true rfl, Nat.le_of_ble_eq_true rfl⟩ hP 0 rfl rfl rfl rfl hl.1 rfl (Nat.le_of_ble_eq_true rfl) dL_change_510 ⟨Nat.le_of_ble_eq_true rfl, Nat.le_of_ble_eq_true rfl⟩ (fun v9 hv9 => ?_)
                subst hv9
                refine W.eq (g2 := F0 m 513 ls [.int (nI (N 3))]) rfl ?_
                refine lv_if_le (tgt := 532) hx hb dL_change_513 (by decide) (fun c_162 => ?_) (fun c_162 => ?_)
                · replace c_162 := cn_le (a := (N 3)) (b := 0) (by omega) (by omega) c_162
                  refine lv_iconst (v := 0) hx hb dL_change_532 (by decide) ?_
                  have hv9 : chg N Z v w = (0, N, Z) := by rw [hg]; unfold chB; rw [if_neg (by first | assumption | omega | exact (fun q9 => by first | omega | exact absurd q9.2 (by assumption) | exact absurd q9.2.1 (by assumption) | exact absurd q9.2.2 (by assumption)))]
                  exact hret _ H _ _ _ _ _ (show some (Value.int 0) = some (Value.int ((chg N Z v w).1)) ∧ wst G T q a (chg N Z v w).2.1 (chg N Z v w).2.2 b tx L cu er le nb nc H from ⟨by rw [hv9], by rw [hv9]; exact wst_id hsc hP⟩) rfl hS (Nat.le_of_ble_eq_true rfl) (Nat.le_of_ble_eq_true rfl) dL_change_533
                · replace c_162 := cn_nle (a := (N 3)) (b := 0) (by omega) (by omega) c_162
                  refine lv_aload_n hx hb dL_change_516 rfl (lv_at hl 2 rfl) ?_
                  refine lv_iload_n hx hb dL_change_517 rfl (lv_at hl 4 rfl) ?_
                  refine lv_aload_n hx hb dL_change_518 rfl (lv_at hl 2 rfl) ?_
                  refine lv_iconst (v := 3) hx hb dL_change_519 (by decide) ?_
                  refine rn_V S hkx hth (nX5_value l hl0 (sa := sa) (h9 := (fun q h => hA q (Nat.le_trans hS.1 h))) (hP := hP) (hwf := hwf) (hw := (by omega)) (w := 3)) gL_change_X5_value rfl idX5_value ⟨Nat.le_of_ble_eq_true rfl, Nat.le_of_ble_eq_true rfl⟩ hP 0 rfl rfl rfl rfl hl.1 rfl (Nat.le_of_ble_eq_true rfl) dL_change_520 ⟨Nat.le_of_ble_eq_true rfl, Nat.le_of_ble_eq_true rfl⟩ (fun v9 hv9 => ?_)
                  subst hv9
                  refine W.eq (g2 := F0 m 523 ls [.int (nI (N 3)), .int w, .ref (q 0)]) rfl ?_
                  refine ro_S S hkx (mL_low l (v := w) (k := (N 3)) (h0 := (by omega)) (hk := (by omega))) gL_change_L_low rfl idL_low.2 ⟨Nat.le_of_ble_eq_true rfl, Nat.le_of_ble_eq_true rfl⟩ rfl hl.1 rfl (Nat.le_of_ble_eq_true rfl) dL_change_523 ⟨Nat.le_of_ble_eq_true rfl, Nat.le_of_ble_eq_true rfl⟩ (fun r9 hr9 => ?_)
                  subst hr9
                  refine W.eq (g2 := F0 m 526 ls [.int (nI (lowN w (N 3))), .ref (q 0)]) rfl ?_
                  refine wn_V S hkx hth (nX5_dropShim l hl0 (sa := sa) (A9 := A) (h9 := (fun q h => hA q (Nat.le_trans hS.1 h))) (hP := hP) (hD := hD.weaken (fun _ _ _ _ => trivial)) (hwf := hwf) (hsc := (by omega)) (ht := (lowN_lt w (by omega))) (t := (lowN w (N 3)))) gL_change_X5_dropShim rfl idX5_dropShim ⟨Nat.le_of_ble_eq_true rfl, Nat.le_of_ble_eq_true rfl⟩ hP 0 rfl rfl rfl rfl hl.1 rfl (Nat.le_of_ble_eq_true rfl) dL_change_526 ⟨Nat.le_of_ble_eq_true rfl, Nat.le_of_ble_eq_true rfl⟩ hS (fr_in hD (fun q h => hA q (Nat.le_trans hS.1 h))) (fun v9 H locs hp9 hz1 hk1 hS => ?_)
                  obtain ⟨rfl, hP⟩ := hp9
                  have hP : va_P G vwCl (wMain T q a (va_up N 3 (N 3 - 1)) (sDel Z (lowN w (N 3)) (N 3 - 1)) (svB sc b) (psh sc M N) (psh sc Y Z) (svC sc) tx L cu er le nb nc) H := hP
                  have hD : va_D A (wMain T q a (va_up N 3 (N 3 - 1)) (sDel Z (lowN w (N 3)) (N 3 - 1)) (svB sc b) (psh sc M N) (psh sc Y Z) (svC sc) tx L cu er le nb nc) := D_perm hD sv_addr
                  have hth := hth0.kept hS.2.1
                  refine W.eq (g2 := F0 m 529 ls [.int (nI (N 3 - 1))]) rfl ?_
                  refine lv_goto (tgt := 533) hx hb dL_change_529 (by decide) ?_
                  have hv9 : chg N Z v w = ((nI (N 3 - 1)), (va_up N 3 (N 3 - 1)), (sDel Z (lowN w (N 3)) (N 3 - 1))) := by rw [hg]; unfold chB; rw [if_pos (by first | assumption | omega | exact ⟨by first | assumption | omega, by first | assumption | omega⟩ | exact ⟨by first | assumption | omega, by first | assumption | omega, by first | assumption | omega⟩)]
                  exact hret _ H _ _ _ _ _ (show some (Value.int (nI (N 3 - 1))) = some (Value.int ((chg N Z v w).1)) ∧ wst G T q a (chg N Z v w).2.1 (chg N Z v w).2.2 b tx L cu er le nb nc H from ⟨by rw [hv9], by rw [hv9]; exact wst_sv hsc hP⟩) rfl hS (Nat.le_of_ble_eq_true rfl) (Nat.le_of_ble_eq_true rfl) dL_change_533
            exact L75   _ _ hP hD hS _ (lv_sub hl [1, 2, 3, 4, 5, 6, 7, 0] rfl)
        exact L55   _ _ hP hD hS _ (lv_sub hl [1, 2, 3, 4, 5, 6, 0] rfl)
      · replace c_109 := cn_eq (a := (N 0)) (b := 0) (by omega) (by omega) c_109
        refine lv_iconst (v := 0) hx hb dL_change_43 (by decide) ?_
        refine lv_goto (tgt := 55) hx hb dL_change_44 (by decide) ?_
        refine W.eq (g2 := F0 m 55 ls [.int (nI (chA N v))]) (congrArg (fun z9 => F0 m 55 ls (.int z9 :: [])) (by unfold chA; rw [if_pos c_109]; rfl)) ?_
        have L55 :  ∀ (H : Heap) (locs : List Loc), va_P G vwCl (wMain T q a N Z b M Y sc tx L cu er le nb nc) H → va_D A (wMain T q a N Z b M Y sc tx L cu er le nb nc) → va_S A H0 H locs → ∀ ls : Array Slot, lv_has ls 11 [(0, .ref (q 0)), (1, .int v), (2, .int w), (3, .int (nI (N 0))), (4, .int (nI (N 1))), (5, .int (nI (N 2))), (6, .int (nI (chU N v)))] → W p l e (rmx 9 180 3) s m ([.ref (q 0), .int v, .int w] : List Value).toArray below meth c H locs 0 0 Q (F0 m 55 ls [.int (nI (chA N v))]) := by
          intro   H locs hP hD hS ls hl
          have hth := hth0.kept hS.2.1
          refine lv_istore (lv' := [(7, .int (nI (chA N v))), (0, .ref (q 0)), (1, .int v), (2, .int w), (3, .int (nI (N 0))), (4, .int (nI (N 1))), (5, .int (nI (N 2))), (6, .int (nI (chU N v)))]) hx hb dL_change_55 hl (by decide) rfl (fun ls hl => ?_)
          refine lv_iload hx hb dL_change_57 (lv_at hl 5 rfl) ?_
          refine lv_if_ne (tgt := 66) hx hb dL_change_59 (by decide) (fun c_163 => ?_) (fun c_163 => ?_)
          · replace c_163 := cn_ne (a := (N 1)) (b := 0) (by omega) (by omega) c_163
            refine lv_iload_n hx hb dL_change_66 rfl (lv_at hl 2 rfl) ?_
            refine lv_bipush (v := 13) hx hb dL_change_67 (by decide) ?_
            refine lv_ishr hx hb dL_change_69 ?_
            refine lv_iload hx hb dL_change_70 (lv_at hl 5 rfl) ?_
            refine ro_S S hkx (mL_low l (v := (v >>> (13 &&& 31))) (k := (N 1)) (h0 := (by omega)) (hk := (by omega))) gL_change_L_low rfl idL_low.2 ⟨Nat.le_of_ble_eq_true rfl, Nat.le_of_ble_eq_true rfl⟩ rfl hl.1 rfl (Nat.le_of_ble_eq_true rfl) dL_change_72 ⟨Nat.le_of_ble_eq_true rfl, Nat.le_of_ble_eq_true rfl⟩ (fun r9 hr9 => ?_)
            subst hr9
            refine W.eq (g2 := F0 m 75 ls [.int (nI (lowN (v >>> (13 &&& 31)) (N 1)))]) rfl ?_
            refine W.eq (g2 := F0 m 75 ls [.int (nI (chF N v))]) (congrArg (fun z9 => F0 m 75 ls (.int z9 :: [])) (by unfold chF; rw [if_neg c_163])) ?_
            have L75 :  ∀ (H : Heap) (locs : List Loc), va_P G vwCl (wMain T q a N Z b M Y sc tx L cu er le nb nc) H → va_D A (wMain T q a N Z b M Y sc tx L cu er le nb nc) → va_S A H0 H locs → ∀ ls : Array Slot, lv_has ls 11 [(0, .ref (q 0)), (1, .int v), (2, .int w), (3, .int (nI (N 0))), (4, .int (nI (N 1))), (5, .int (nI (N 2))), (6, .int (nI (chU N v))), (7, .int (nI (chA N v)))] → W p l e (rmx 9 180 3) s m ([.ref (q 0), .int v, .int w] : List Value).toArray below meth c H locs 0 0 Q (F0 m 75 ls [.int (nI (chF N v))]) := by
              intro   H locs hP hD hS ls hl
              have hth := hth0.kept hS.2.1
              refine lv_istore (lv' := [(8, .int (nI (chF N v))), (0, .ref (q 0)), (1, .int v), (2, .int w), (3, .int (nI (N 0))), (4, .int (nI (N 1))), (5, .int (nI (N 2))), (6, .int (nI (chU N v))), (7, .int (nI (chA N v)))]) hx hb dL_change_75 hl (by decide) rfl (fun ls hl => ?_)
              refine lv_iload_n hx hb dL_change_77 rfl (lv_at hl 3 rfl) ?_
              refine lv_sipush (v := 200) hx hb dL_change_78 (by decide) ?_
              refine ro_S S hkx (mL_low l (v := w) (k := 200) (h0 := (by omega)) (hk := (by omega))) gL_change_L_low rfl idL_low.2 ⟨Nat.le_of_ble_eq_true rfl, Nat.le_of_ble_eq_true rfl⟩ rfl hl.1 rfl (Nat.le_of_ble_eq_true rfl) dL_change_81 ⟨Nat.le_of_ble_eq_true rfl, Nat.le_of_ble_eq_true rfl⟩ (fun r9 hr9 => ?_)
              subst hr9
              refine W.eq (g2 := F0 m 84 ls [.int (nI (lowN w 200))]) rfl ?_
              refine lv_istore (lv' := [(9, .int (nI (lowN w 200))), (8, .int (nI (chF N v))), (0, .ref (q 0)), (1, .int v), (2, .int w), (3, .int (nI (N 0))), (4, .int (nI (N 1))), (5, .int (nI (N 2))), (6, .int (nI (chU N v))), (7, .int (nI (chA N v)))]) hx hb dL_change_84 hl (by decide) rfl (fun ls hl => ?_)
              refine lv_iload_n hx hb dL_change_86 rfl (lv_at hl 3 rfl) ?_
              refine lv_bipush (v := 12) hx hb dL_change_87 (by decide) ?_
              refine ro_S S hkx (mL_low l (v := v) (k := 12) (h0 := (by omega)) (hk := (by omega))) gL_change_L_low rfl idL_low.2 ⟨Nat.le_of_ble_eq_true rfl, Nat.le_of_ble_eq_true rfl⟩ rfl hl.1 rfl (Nat.le_of_ble_eq_true rfl) dL_change_89 ⟨Nat.le_of_ble_eq_true rfl, Nat.le_of_ble_eq_true rfl⟩ (fun r9 hr9 => ?_)
              subst hr9
              refine W.eq (g2 := F0 m 92 ls [.int (nI (lowN v 12))]) rfl ?_
              obtain ⟨cz, hcz⟩ : ∃ cz, lowN v 12 = cz := ⟨_, rfl⟩
              have hcz12 : cz < 12 := hcz ▸ lowN_lt v (by decide)
              refine W.eq (g2 := F0 m 92 ls [.int (nI cz)]) (congrArg (fun z9 => F0 m 92 ls (.int z9 :: [])) (congrArg nI hcz)) ?_
              rcases (show cz = 0 ∨ cz = 1 ∨ cz = 2 ∨ cz = 3 ∨ cz = 4 ∨ cz = 5 ∨ cz = 6 ∨ cz = 7 ∨ cz = 8 ∨ cz = 9 ∨ cz = 10 ∨ cz = 11 by omega) with rfl | rfl | rfl | rfl | rfl | rfl | rfl | rfl | rfl | rfl | rfl | rfl
              · refine lv_tableIn (off := 60) (tgt := 152) hx hb dL_change_92 (by decide) (by decide) rfl (by decide) ?_
                have hg : chg N Z v w = ch0 N Z w := by unfold chg; rw [hcz]; rfl
                refine lv_iload_n hx hb dL_change_152 rfl (lv_at hl 5 rfl) ?_
                refine lv_iconst (v := 5) hx hb dL_change_153 (by decide) ?_
                refine lv_icmp_ge (tgt := 184) hx hb dL_change_154 (by decide) (fun c_164 => ?_) (fun c_164 => ?_)
                · replace c_164 := cn_le (a := 5) (b := (N 0)) (by omega) (by omega) c_164
                  refine lv_aload_n hx hb dL_change_184 rfl (lv_at hl 2 rfl) ?_
                  refine lv_iconst (v := 4) hx hb dL_change_185 (by decide) ?_
                  refine rn_V S hkx hth (nX5_value l hl0 (sa := sa) (h9 := (fun q h => hA q (Nat.le_trans hS.1 h))) (hP := hP) (hwf := hwf) (hw := (by omega)) (w := 4)) gL_change_X5_value rfl idX5_value ⟨Nat.le_of_ble_eq_true rfl, Nat.le_of_ble_eq_true rfl⟩ hP 0 rfl rfl rfl rfl hl.1 rfl (Nat.le_of_ble_eq_true rfl) dL_change_186 ⟨Nat.le_of_ble_eq_true rfl, Nat.le_of_ble_eq_true rfl⟩ (fun v9 hv9 => ?_)
                  subst hv9
                  refine W.eq (g2 := F0 m 189 ls [.int (plC Z (N 2))]) rfl ?_
                  have hv9 : chg N Z v w = ((plC Z (N 2)), N, Z) := by rw [hg]; unfold ch0; rw [if_neg (by first | assumption | omega | exact (fun q9 => by first | omega | exact absurd q9.2 (by assumption) | exact absurd q9.2.1 (by assumption) | exact absurd q9.2.2 (by assumption)))]
                  exact hret _ H _ _ _ _ _ (show some (Value.int (plC Z (N 2))) = some (Value.int ((chg N Z v w).1)) ∧ wst G T q a (chg N Z v w).2.1 (chg N Z v w).2.2 b tx L cu er le nb nc H from ⟨by rw [hv9], by rw [hv9]; exact wst_id hsc hP⟩) rfl hS (Nat.le_of_ble_eq_true rfl) (Nat.le_of_ble_eq_true rfl) dL_change_189
                · replace c_164 := cn_nle (a := 5) (b := (N 0)) (by omega) (by omega) c_164
                  refine lv_aload_n hx hb dL_change_157 rfl (lv_at hl 2 rfl) ?_
                  refine lv_iload hx hb dL_change_158 (lv_at hl 0 rfl) ?_
                  refine lv_iload hx hb dL_change_160 (lv_at hl 0 rfl) ?_
                  refine lv_iconst (v := 1) hx hb dL_change_162 (by decide) ?_
                  refine lv_iadd hx hb dL_change_163 ?_
                  refine W.eq (g2 := F0 m 164 ls [.int (nI ((lowN w 200) + 1)), .int (nI (lowN w 200)), .ref (q 0)]) (congrArg (fun z9 => F0 m 164 ls (.int z9 :: [.int (nI (lowN w 200)), .ref (q 0)])) (nI_add _ 1)) ?_
                  refine lv_iload_n hx hb dL_change_164 rfl (lv_at hl 4 rfl) ?_
                  refine lv_bipush (v := 8) hx hb dL_change_165 (by decide) ?_
                  refine lv_ishr hx hb dL_change_167 ?_
                  refine lv_sipush (v := 1000) hx hb dL_change_168 (by decide) ?_
                  refine lv_iload hx hb dL_change_171 (lv_at hl 0 rfl) ?_
                  refine lv_isub hx hb dL_change_173 ?_
                  refine W.eq (g2 := F0 m 174 ls [.int (nI (1000 - (lowN w 200))), .int (w >>> (8 &&& 31)), .int (nI ((lowN w 200) + 1)), .int (nI (lowN w 200)), .ref (q 0)]) (congrArg (fun z9 => F0 m 174 ls (.int z9 :: [.int (w >>> (8 &&& 31)), .int (nI ((lowN w 200) + 1)), .int (nI (lowN w 200)), .ref (q 0)])) (pk_sub (a := 1000) (b := (lowN w 200)) (by omega))) ?_
                  refine ro_S S hkx (mL_low l (v := (w >>> (8 &&& 31))) (k := (1000 - (lowN w 200))) (h0 := (by omega)) (hk := (by omega))) gL_change_L_low rfl idL_low.2 ⟨Nat.le_of_ble_eq_true rfl, Nat.le_of_ble_eq_true rfl⟩ rfl hl.1 rfl (Nat.le_of_ble_eq_true rfl) dL_change_174 ⟨Nat.le_of_ble_eq_true rfl, Nat.le_of_ble_eq_true rfl⟩ (fun r9 hr9 => ?_)
                  subst hr9
                  refine W.eq (g2 := F0 m 177 ls [.int (nI (lowN (w >>> (8 &&& 31)) (1000 - (lowN w 200)))), .int (nI ((lowN w 200) + 1)), .int (nI (lowN w 200)), .ref (q 0)]) rfl ?_
                  refine lv_iadd hx hb dL_change_177 ?_
                  refine W.eq (g2 := F0 m 178 ls [.int (nI (((lowN w 200) + 1) + (lowN (w >>> (8 &&& 31)) (1000 - (lowN w 200))))), .int (nI (lowN w 200)), .ref (q 0)]) (congrArg (fun z9 => F0 m 178 ls (.int z9 :: [.int (nI (lowN w 200)), .ref (q 0)])) (nI_add _ _)) ?_
                  refine wn_V S hkx hth (nX5_addVersion l hl0 (sa := sa) (A9 := A) (h9 := (fun q h => hA q (Nat.le_trans hS.1 h))) (hP := hP) (hD := hD.weaken (fun _ _ _ _ => trivial)) (hwf := hwf) (hsc := (by omega)) (hx := (by omega)) (hz1 := (by omega)) (hz := (by omega)) (h8 := (by omega)) (x := (lowN w 200)) (z := (((lowN w 200) + 1) + (lowN (w >>> (8 &&& 31)) (1000 - (lowN w 200)))))) gL_change_X5_addVersion rfl idX5_addVersion ⟨Nat.le_of_ble_eq_true rfl, Nat.le_of_ble_eq_true rfl⟩ hP 0 rfl rfl rfl rfl hl.1 rfl (Nat.le_of_ble_eq_true rfl) dL_change_178 ⟨Nat.le_of_ble_eq_true rfl, Nat.le_of_ble_eq_true rfl⟩ hS (fr_in hD (fun q h => hA q (Nat.le_trans hS.1 h))) (fun v9 H locs hp9 hz1 hk1 hS => ?_)
                  obtain ⟨rfl, hP⟩ := hp9
                  have hP : va_P G vwCl (wMain T q a (va_up N 0 (N 0 + 1)) (vAdd N Z (nI (lowN w 200)) (nI (((lowN w 200) + 1) + (lowN (w >>> (8 &&& 31)) (1000 - (lowN w 200)))))) (svB sc b) (psh sc M N) (psh sc Y Z) (svC sc) tx L cu er le nb nc) H := hP
                  have hD : va_D A (wMain T q a (va_up N 0 (N 0 + 1)) (vAdd N Z (nI (lowN w 200)) (nI (((lowN w 200) + 1) + (lowN (w >>> (8 &&& 31)) (1000 - (lowN w 200)))))) (svB sc b) (psh sc M N) (psh sc Y Z) (svC sc) tx L cu er le nb nc) := D_perm hD sv_addr
                  have hth := hth0.kept hS.2.1
                  refine W.eq (g2 := F0 m 181 ls [.int (nI (N 0))]) rfl ?_
                  refine lv_goto (tgt := 189) hx hb dL_change_181 (by decide) ?_
                  have hv9 : chg N Z v w = ((nI (N 0)), (va_up N 0 (N 0 + 1)), (vAdd N Z (nI (lowN w 200)) (nI (((lowN w 200) + 1) + (lowN (w >>> (8 &&& 31)) (1000 - (lowN w 200))))))) := by rw [hg]; unfold ch0; rw [if_pos (by first | assumption | omega | exact ⟨by first | assumption | omega, by first | assumption | omega⟩ | exact ⟨by first | assumption | omega, by first | assumption | omega, by first | assumption | omega⟩)]
                  exact hret _ H _ _ _ _ _ (show some (Value.int (nI (N 0))) = some (Value.int ((chg N Z v w).1)) ∧ wst G T q a (chg N Z v w).2.1 (chg N Z v w).2.2 b tx L cu er le nb nc H from ⟨by rw [hv9], by rw [hv9]; exact wst_sv hsc hP⟩) rfl hS (Nat.le_of_ble_eq_true rfl) (Nat.le_of_ble_eq_true rfl) dL_change_189
              · refine lv_tableIn (off := 98) (tgt := 190) hx hb dL_change_92 (by decide) (by decide) rfl (by decide) ?_
                have hg : chg N Z v w = ch1 N Z w := by unfold chg; rw [hcz]; rfl
                refine lv_iload_n hx hb dL_change_190 rfl (lv_at hl 5 rfl) ?_
                refine lv_if_le (tgt := 215) hx hb dL_change_191 (by decide) (fun c_165 => ?_) (fun c_165 => ?_)
                · replace c_165 := cn_le (a := (N 0)) (b := 0) (by omega) (by omega) c_165
                  refine lv_iload_n hx hb dL_change_215 rfl (lv_at hl 5 rfl) ?_
                  refine lv_if_ne (tgt := 230) hx hb dL_change_216 (by decide) (fun c_166 => ?_) (fun c_166 => ?_)
                  · exact absurd (show nI (N 0) = 0 by rw [show N 0 = 0 by omega]; rfl) c_166
                  · replace c_166 := cn_eq (a := (N 0)) (b := 0) (by omega) (by omega) c_166
                    refine lv_aload_n hx hb dL_change_219 rfl (lv_at hl 2 rfl) ?_
                    refine lv_iconst (v := 0) hx hb dL_change_220 (by decide) ?_
                    refine lv_sipush (v := 700) hx hb dL_change_221 (by decide) ?_
                    refine wn_V S hkx hth (nX5_addVersion l hl0 (sa := sa) (A9 := A) (h9 := (fun q h => hA q (Nat.le_trans hS.1 h))) (hP := hP) (hD := hD.weaken (fun _ _ _ _ => trivial)) (hwf := hwf) (hsc := (by omega)) (hx := (by omega)) (hz1 := (by omega)) (hz := (by omega)) (h8 := (by omega)) (x := 0) (z := 700)) gL_change_X5_addVersion rfl idX5_addVersion ⟨Nat.le_of_ble_eq_true rfl, Nat.le_of_ble_eq_true rfl⟩ hP 0 rfl rfl rfl rfl hl.1 rfl (Nat.le_of_ble_eq_true rfl) dL_change_224 ⟨Nat.le_of_ble_eq_true rfl, Nat.le_of_ble_eq_true rfl⟩ hS (fr_in hD (fun q h => hA q (Nat.le_trans hS.1 h))) (fun v9 H locs hp9 hz1 hk1 hS => ?_)
                    obtain ⟨rfl, hP⟩ := hp9
                    have hP : va_P G vwCl (wMain T q a (va_up N 0 (N 0 + 1)) (vAdd N Z (nI 0) (nI 700)) (svB sc b) (psh sc M N) (psh sc Y Z) (svC sc) tx L cu er le nb nc) H := hP
                    have hD : va_D A (wMain T q a (va_up N 0 (N 0 + 1)) (vAdd N Z (nI 0) (nI 700)) (svB sc b) (psh sc M N) (psh sc Y Z) (svC sc) tx L cu er le nb nc) := D_perm hD sv_addr
                    have hth := hth0.kept hS.2.1
                    refine W.eq (g2 := F0 m 227 ls [.int (nI (N 0))]) rfl ?_
                    refine lv_goto (tgt := 231) hx hb dL_change_227 (by decide) ?_
                    have hv9 : chg N Z v w = ((nI (N 0)), (va_up N 0 (N 0 + 1)), (vAdd N Z (nI 0) (nI 700))) := by rw [hg]; unfold ch1; rw [if_neg (by first | assumption | omega | exact (fun q9 => by first | omega | exact absurd q9.2 (by assumption) | exact absurd q9.2.1 (by assumption) | exact absurd q9.2.2 (by assumption)))]; rw [if_pos (by first | assumption | omega | exact ⟨by first | assumption | omega, by first | assumption | omega⟩ | exact ⟨by first | assumption | omega, by first | assumption | omega, by first | assumption | omega⟩)]
                    exact hret _ H _ _ _ _ _ (show some (Value.int (nI (N 0))) = some (Value.int ((chg N Z v w).1)) ∧ wst G T q a (chg N Z v w).2.1 (chg N Z v w).2.2 b tx L cu er le nb nc H from ⟨by rw [hv9], by rw [hv9]; exact wst_sv hsc hP⟩) rfl hS (Nat.le_of_ble_eq_true rfl) (Nat.le_of_ble_eq_true rfl) dL_change_231
                · replace c_165 := cn_nle (a := (N 0)) (b := 0) (by omega) (by omega) c_165
                  refine lv_iload hx hb dL_change_194 (lv_at hl 6 rfl) ?_
                  refine lv_bipush (v := 6) hx hb dL_change_196 (by decide) ?_
                  refine lv_icmp_ge (tgt := 215) hx hb dL_change_198 (by decide) (fun c_167 => ?_) (fun c_167 => ?_)
                  · replace c_167 := cn_le (a := 6) (b := (N 1)) (by omega) (by omega) c_167
                    refine lv_iload_n hx hb dL_change_215 rfl (lv_at hl 5 rfl) ?_
                    refine lv_if_ne (tgt := 230) hx hb dL_change_216 (by decide) (fun c_168 => ?_) (fun c_168 => ?_)
                    · replace c_168 := cn_ne (a := (N 0)) (b := 0) (by omega) (by omega) c_168
                      refine lv_iconst (v := 0) hx hb dL_change_230 (by decide) ?_
                      have hv9 : chg N Z v w = (0, N, Z) := by rw [hg]; unfold ch1; rw [if_neg (by first | assumption | omega | exact (fun q9 => by first | omega | exact absurd q9.2 (by assumption) | exact absurd q9.2.1 (by assumption) | exact absurd q9.2.2 (by assumption)))]; rw [if_neg (by first | assumption | omega | exact (fun q9 => by first | omega | exact absurd q9.2 (by assumption) | exact absurd q9.2.1 (by assumption) | exact absurd q9.2.2 (by assumption)))]
                      exact hret _ H _ _ _ _ _ (show some (Value.int 0) = some (Value.int ((chg N Z v w).1)) ∧ wst G T q a (chg N Z v w).2.1 (chg N Z v w).2.2 b tx L cu er le nb nc H from ⟨by rw [hv9], by rw [hv9]; exact wst_id hsc hP⟩) rfl hS (Nat.le_of_ble_eq_true rfl) (Nat.le_of_ble_eq_true rfl) dL_change_231
                    · exfalso; replace c_168 := cn_eq (a := N 0) (b := 0) (by omega) (by omega) c_168; omega
                  · replace c_167 := cn_nle (a := 6) (b := (N 1)) (by omega) (by omega) c_167
                    refine lv_aload_n hx hb dL_change_201 rfl (lv_at hl 2 rfl) ?_
                    refine lv_iload_n hx hb dL_change_202 rfl (lv_at hl 4 rfl) ?_
                    refine lv_iconst (v := 1) hx hb dL_change_203 (by decide) ?_
                    refine lv_iload_n hx hb dL_change_204 rfl (lv_at hl 5 rfl) ?_
                    refine lv_ishl hx hb dL_change_205 ?_
                    refine W.eq (g2 := F0 m 206 ls [.int (nI (2 ^ N 0)), .int w, .ref (q 0)]) (congrArg (fun z9 => F0 m 206 ls (.int z9 :: [.int w, .ref (q 0)])) (sh_1 (N 0) (by omega))) ?_
                    refine ro_S S hkx (mL_low l (v := w) (k := (2 ^ N 0)) (h0 := (Nat.pow_pos (by decide))) (hk := (Nat.pow_lt_pow_right (by decide) (by omega)))) gL_change_L_low rfl idL_low.2 ⟨Nat.le_of_ble_eq_true rfl, Nat.le_of_ble_eq_true rfl⟩ rfl hl.1 rfl (Nat.le_of_ble_eq_true rfl) dL_change_206 ⟨Nat.le_of_ble_eq_true rfl, Nat.le_of_ble_eq_true rfl⟩ (fun r9 hr9 => ?_)
                    subst hr9
                    refine W.eq (g2 := F0 m 209 ls [.int (nI (lowN w (2 ^ N 0))), .ref (q 0)]) rfl ?_
                    refine wn_V S hkx hth (nX5_addFeature l hl0 (sa := sa) (A9 := A) (h9 := (fun q h => hA q (Nat.le_trans hS.1 h))) (hP := hP) (hD := hD.weaken (fun _ _ _ _ => trivial)) (hwf := hwf) (hsc := (by omega)) (hx := (lowN_lt _ (Nat.pow_pos (by decide)))) (h8 := (by omega)) (x := (lowN w (2 ^ N 0)))) gL_change_X5_addFeature rfl idX5_addFeature ⟨Nat.le_of_ble_eq_true rfl, Nat.le_of_ble_eq_true rfl⟩ hP 0 rfl rfl rfl rfl hl.1 rfl (Nat.le_of_ble_eq_true rfl) dL_change_209 ⟨Nat.le_of_ble_eq_true rfl, Nat.le_of_ble_eq_true rfl⟩ hS (fr_in hD (fun q h => hA q (Nat.le_trans hS.1 h))) (fun v9 H locs hp9 hz1 hk1 hS => ?_)
                    obtain ⟨rfl, hP⟩ := hp9
                    have hP : va_P G vwCl (wMain T q a (va_up N 1 (N 1 + 1)) (va_up Z 4 (apF (Z 4) (nI (lowN w (2 ^ N 0))) (N 1) (N 0))) (svB sc b) (psh sc M N) (psh sc Y Z) (svC sc) tx L cu er le nb nc) H := hP
                    have hD : va_D A (wMain T q a (va_up N 1 (N 1 + 1)) (va_up Z 4 (apF (Z 4) (nI (lowN w (2 ^ N 0))) (N 1) (N 0))) (svB sc b) (psh sc M N) (psh sc Y Z) (svC sc) tx L cu er le nb nc) := D_perm hD sv_addr
                    have hth := hth0.kept hS.2.1
                    refine W.eq (g2 := F0 m 212 ls [.int (nI (N 1))]) rfl ?_
                    refine lv_goto (tgt := 231) hx hb dL_change_212 (by decide) ?_
                    have hv9 : chg N Z v w = ((nI (N 1)), (va_up N 1 (N 1 + 1)), (va_up Z 4 (apF (Z 4) (nI (lowN w (2 ^ N 0))) (N 1) (N 0)))) := by rw [hg]; unfold ch1; rw [if_pos (by first | assumption | omega | exact ⟨by first | assumption | omega, by first | assumption | omega⟩ | exact ⟨by first | assumption | omega, by first | assumption | omega, by first | assumption | omega⟩)]
                    exact hret _ H _ _ _ _ _ (show some (Value.int (nI (N 1))) = some (Value.int ((chg N Z v w).1)) ∧ wst G T q a (chg N Z v w).2.1 (chg N Z v w).2.2 b tx L cu er le nb nc H from ⟨by rw [hv9], by rw [hv9]; exact wst_sv hsc hP⟩) rfl hS (Nat.le_of_ble_eq_true rfl) (Nat.le_of_ble_eq_true rfl) dL_change_231
              · refine lv_tableIn (off := 140) (tgt := 232) hx hb dL_change_92 (by decide) (by decide) rfl (by decide) ?_
                have hg : chg N Z v w = ch2 N Z v := by unfold chg; rw [hcz]; rfl
                refine lv_iload_n hx hb dL_change_232 rfl (lv_at hl 5 rfl) ?_
                refine lv_if_le (tgt := 272) hx hb dL_change_233 (by decide) (fun c_169 => ?_) (fun c_169 => ?_)
                · replace c_169 := cn_le (a := (N 0)) (b := 0) (by omega) (by omega) c_169
                  refine lv_iconst (v := 0) hx hb dL_change_272 (by decide) ?_
                  have hv9 : chg N Z v w = (0, N, Z) := by rw [hg]; unfold ch2; rw [if_neg (by first | assumption | omega | exact (fun q9 => by first | omega | exact absurd q9.2 (by assumption) | exact absurd q9.2.1 (by assumption) | exact absurd q9.2.2 (by assumption)))]
                  exact hret _ H _ _ _ _ _ (show some (Value.int 0) = some (Value.int ((chg N Z v w).1)) ∧ wst G T q a (chg N Z v w).2.1 (chg N Z v w).2.2 b tx L cu er le nb nc H from ⟨by rw [hv9], by rw [hv9]; exact wst_id hsc hP⟩) rfl hS (Nat.le_of_ble_eq_true rfl) (Nat.le_of_ble_eq_true rfl) dL_change_273
                · replace c_169 := cn_nle (a := (N 0)) (b := 0) (by omega) (by omega) c_169
                  refine lv_iload hx hb dL_change_236 (lv_at hl 6 rfl) ?_
                  refine lv_if_le (tgt := 272) hx hb dL_change_238 (by decide) (fun c_170 => ?_) (fun c_170 => ?_)
                  · replace c_170 := cn_le (a := (N 1)) (b := 0) (by omega) (by omega) c_170
                    refine lv_iconst (v := 0) hx hb dL_change_272 (by decide) ?_
                    have hv9 : chg N Z v w = (0, N, Z) := by rw [hg]; unfold ch2; rw [if_neg (by first | assumption | omega | exact (fun q9 => by first | omega | exact absurd q9.2 (by assumption) | exact absurd q9.2.1 (by assumption) | exact absurd q9.2.2 (by assumption)))]
                    exact hret _ H _ _ _ _ _ (show some (Value.int 0) = some (Value.int ((chg N Z v w).1)) ∧ wst G T q a (chg N Z v w).2.1 (chg N Z v w).2.2 b tx L cu er le nb nc H from ⟨by rw [hv9], by rw [hv9]; exact wst_id hsc hP⟩) rfl hS (Nat.le_of_ble_eq_true rfl) (Nat.le_of_ble_eq_true rfl) dL_change_273
                  · replace c_170 := cn_nle (a := (N 1)) (b := 0) (by omega) (by omega) c_170
                    refine lv_aload_n hx hb dL_change_241 rfl (lv_at hl 2 rfl) ?_
                    refine lv_iload hx hb dL_change_242 (lv_at hl 1 rfl) ?_
                    refine lv_iload hx hb dL_change_244 (lv_at hl 9 rfl) ?_
                    refine lv_aload_n hx hb dL_change_246 rfl (lv_at hl 2 rfl) ?_
                    refine lv_iload hx hb dL_change_247 (lv_at hl 9 rfl) ?_
                    refine lv_iconst (v := 2) hx hb dL_change_249 (by decide) ?_
                    refine rn_V S hkx hth (nX5_version l hl0 (sa := sa) (h9 := (fun q h => hA q (Nat.le_trans hS.1 h))) (hP := hP) (hwf := hwf) (hv := (chA_lt (by omega))) (hw := (by omega)) (v := (chA N v)) (w := 2)) gL_change_X5_version rfl idX5_version ⟨Nat.le_of_ble_eq_true rfl, Nat.le_of_ble_eq_true rfl⟩ hP 0 rfl rfl rfl rfl hl.1 rfl (Nat.le_of_ble_eq_true rfl) dL_change_250 ⟨Nat.le_of_ble_eq_true rfl, Nat.le_of_ble_eq_true rfl⟩ (fun v9 hv9 => ?_)
                    subst hv9
                    refine W.eq (g2 := F0 m 253 ls [.int (Z 4 (chA N v)), .int (nI (chA N v)), .int (nI (chF N v)), .ref (q 0)]) rfl ?_
                    refine lv_iload hx hb dL_change_253 (lv_at hl 1 rfl) ?_
                    refine lv_ishr hx hb dL_change_255 ?_
                    refine lv_iconst (v := 1) hx hb dL_change_256 (by decide) ?_
                    refine lv_iand hx hb dL_change_257 ?_
                    refine W.eq (g2 := F0 m 258 ls [.int (bI (cnt1 (Z 4 (chA N v)) (nI (chF N v)))), .int (nI (chA N v)), .int (nI (chF N v)), .ref (q 0)]) (congrArg (fun z9 => F0 m 258 ls (.int z9 :: [.int (nI (chA N v)), .int (nI (chF N v)), .ref (q 0)])) (and_cn (Nat.lt_of_lt_of_le (chF_lt (by omega)) (by omega)))) ?_
                    refine lv_if_ne (tgt := 265) hx hb dL_change_258 (by decide) (fun c_171 => ?_) (fun c_171 => ?_)
                    · replace c_171 := bI_n0 c_171
                      refine lv_iconst (v := 0) hx hb dL_change_265 (by decide) ?_
                      refine W.eq (g2 := F0 m 266 ls [.int (bI false), .int (nI (chA N v)), .int (nI (chF N v)), .ref (q 0)]) (congrArg (fun z9 => F0 m 266 ls (.int z9 :: [.int (nI (chA N v)), .int (nI (chF N v)), .ref (q 0)])) (rfl)) ?_
                      refine wn_V S hkx hth (nX5_put l hl0 (sa := sa) (A9 := A) (h9 := (fun q h => hA q (Nat.le_trans hS.1 h))) (hP := hP) (hD := hD.weaken (fun _ _ _ _ => trivial)) (hwf := hwf) (hsc := (by omega)) (hf := (chF_lt (by omega))) (hv := (chA_lt (by omega))) (h8 := (by first | (rw [show cnt1 (Z 4 (chA N v)) (nI (chF N v)) = true by assumption]; decide) | (rw [show cnt1 (Z 4 (chA N v)) (nI (chF N v)) = false by assumption]; decide))) (f := (chF N v)) (v := (chA N v)) (h := false)) gL_change_X5_put rfl idX5_put ⟨Nat.le_of_ble_eq_true rfl, Nat.le_of_ble_eq_true rfl⟩ hP 0 rfl rfl rfl rfl hl.1 rfl (Nat.le_of_ble_eq_true rfl) dL_change_266 ⟨Nat.le_of_ble_eq_true rfl, Nat.le_of_ble_eq_true rfl⟩ hS (fr_in hD (fun q h => hA q (Nat.le_trans hS.1 h))) (fun v9 H locs hp9 hz1 hk1 hS => ?_)
                      obtain ⟨rfl, hP⟩ := hp9
                      have hP : va_P G vwCl (wMain T q a N (va_up Z 4 (upd (Z 4) (chA N v) (Z 4 (chA N v) ^^^ ((1 : Int32) <<< (nI (chF N v) &&& 31))))) (svB sc b) (psh sc M N) (psh sc Y Z) (svC sc) tx L cu er le nb nc) H := hP
                      have hD : va_D A (wMain T q a N (va_up Z 4 (upd (Z 4) (chA N v) (Z 4 (chA N v) ^^^ ((1 : Int32) <<< (nI (chF N v) &&& 31))))) (svB sc b) (psh sc M N) (psh sc Y Z) (svC sc) tx L cu er le nb nc) := D_perm hD sv_addr
                      have hth := hth0.kept hS.2.1
                      refine W.eq (g2 := F0 m 269 ls [.int (allW (va_up Z 4 (upd (Z 4) (chA N v) (Z 4 (chA N v) ^^^ ((1 : Int32) <<< (nI (chF N v) &&& 31))))) (nI (chF N v)) (N 0))]) rfl ?_
                      refine lv_goto (tgt := 273) hx hb dL_change_269 (by decide) ?_
                      have hv9 : chg N Z v w = ((allW (va_up Z 4 (upd (Z 4) (chA N v) (Z 4 (chA N v) ^^^ ((1 : Int32) <<< (nI (chF N v) &&& 31))))) (nI (chF N v)) (N 0)), N, (va_up Z 4 (upd (Z 4) (chA N v) (Z 4 (chA N v) ^^^ ((1 : Int32) <<< (nI (chF N v) &&& 31)))))) := by rw [hg]; unfold ch2; rw [if_pos (by first | assumption | omega | exact ⟨by first | assumption | omega, by first | assumption | omega⟩ | exact ⟨by first | assumption | omega, by first | assumption | omega, by first | assumption | omega⟩)]
                      exact hret _ H _ _ _ _ _ (show some (Value.int (allW (va_up Z 4 (upd (Z 4) (chA N v) (Z 4 (chA N v) ^^^ ((1 : Int32) <<< (nI (chF N v) &&& 31))))) (nI (chF N v)) (N 0))) = some (Value.int ((chg N Z v w).1)) ∧ wst G T q a (chg N Z v w).2.1 (chg N Z v w).2.2 b tx L cu er le nb nc H from ⟨by rw [hv9], by rw [hv9]; exact wst_sv hsc hP⟩) rfl hS (Nat.le_of_ble_eq_true rfl) (Nat.le_of_ble_eq_true rfl) dL_change_273
                    · replace c_171 := bI_e0 c_171
                      refine lv_iconst (v := 1) hx hb dL_change_261 (by decide) ?_
                      refine lv_goto (tgt := 266) hx hb dL_change_262 (by decide) ?_
                      refine W.eq (g2 := F0 m 266 ls [.int (bI true), .int (nI (chA N v)), .int (nI (chF N v)), .ref (q 0)]) (congrArg (fun z9 => F0 m 266 ls (.int z9 :: [.int (nI (chA N v)), .int (nI (chF N v)), .ref (q 0)])) (rfl)) ?_
                      refine wn_V S hkx hth (nX5_put l hl0 (sa := sa) (A9 := A) (h9 := (fun q h => hA q (Nat.le_trans hS.1 h))) (hP := hP) (hD := hD.weaken (fun _ _ _ _ => trivial)) (hwf := hwf) (hsc := (by omega)) (hf := (chF_lt (by omega))) (hv := (chA_lt (by omega))) (h8 := (by first | (rw [show cnt1 (Z 4 (chA N v)) (nI (chF N v)) = true by assumption]; decide) | (rw [show cnt1 (Z 4 (chA N v)) (nI (chF N v)) = false by assumption]; decide))) (f := (chF N v)) (v := (chA N v)) (h := true)) gL_change_X5_put rfl idX5_put ⟨Nat.le_of_ble_eq_true rfl, Nat.le_of_ble_eq_true rfl⟩ hP 0 rfl rfl rfl rfl hl.1 rfl (Nat.le_of_ble_eq_true rfl) dL_change_266 ⟨Nat.le_of_ble_eq_true rfl, Nat.le_of_ble_eq_true rfl⟩ hS (fr_in hD (fun q h => hA q (Nat.le_trans hS.1 h))) (fun v9 H locs hp9 hz1 hk1 hS => ?_)
                      obtain ⟨rfl, hP⟩ := hp9
                      have hP : va_P G vwCl (wMain T q a N (va_up Z 4 (upd (Z 4) (chA N v) (Z 4 (chA N v) ^^^ ((1 : Int32) <<< (nI (chF N v) &&& 31))))) (svB sc b) (psh sc M N) (psh sc Y Z) (svC sc) tx L cu er le nb nc) H := hP
                      have hD : va_D A (wMain T q a N (va_up Z 4 (upd (Z 4) (chA N v) (Z 4 (chA N v) ^^^ ((1 : Int32) <<< (nI (chF N v) &&& 31))))) (svB sc b) (psh sc M N) (psh sc Y Z) (svC sc) tx L cu er le nb nc) := D_perm hD sv_addr
                      have hth := hth0.kept hS.2.1
                      refine W.eq (g2 := F0 m 269 ls [.int (allW (va_up Z 4 (upd (Z 4) (chA N v) (Z 4 (chA N v) ^^^ ((1 : Int32) <<< (nI (chF N v) &&& 31))))) (nI (chF N v)) (N 0))]) rfl ?_
                      refine lv_goto (tgt := 273) hx hb dL_change_269 (by decide) ?_
                      have hv9 : chg N Z v w = ((allW (va_up Z 4 (upd (Z 4) (chA N v) (Z 4 (chA N v) ^^^ ((1 : Int32) <<< (nI (chF N v) &&& 31))))) (nI (chF N v)) (N 0)), N, (va_up Z 4 (upd (Z 4) (chA N v) (Z 4 (chA N v) ^^^ ((1 : Int32) <<< (nI (chF N v) &&& 31)))))) := by rw [hg]; unfold ch2; rw [if_pos (by first | assumption | omega | exact ⟨by first | assumption | omega, by first | assumption | omega⟩ | exact ⟨by first | assumption | omega, by first | assumption | omega, by first | assumption | omega⟩)]
                      exact hret _ H _ _ _ _ _ (show some (Value.int (allW (va_up Z 4 (upd (Z 4) (chA N v) (Z 4 (chA N v) ^^^ ((1 : Int32) <<< (nI (chF N v) &&& 31))))) (nI (chF N v)) (N 0))) = some (Value.int ((chg N Z v w).1)) ∧ wst G T q a (chg N Z v w).2.1 (chg N Z v w).2.2 b tx L cu er le nb nc H from ⟨by rw [hv9], by rw [hv9]; exact wst_sv hsc hP⟩) rfl hS (Nat.le_of_ble_eq_true rfl) (Nat.le_of_ble_eq_true rfl) dL_change_273
              · refine lv_tableIn (off := 182) (tgt := 274) hx hb dL_change_92 (by decide) (by decide) rfl (by decide) ?_
                have hg : chg N Z v w = ch3 N Z v w := by unfold chg; rw [hcz]; rfl
                refine lv_iload_n hx hb dL_change_274 rfl (lv_at hl 5 rfl) ?_
                refine lv_if_le (tgt := 303) hx hb dL_change_275 (by decide) (fun c_172 => ?_) (fun c_172 => ?_)
                · replace c_172 := cn_le (a := (N 0)) (b := 0) (by omega) (by omega) c_172
                  refine lv_iconst (v := 0) hx hb dL_change_303 (by decide) ?_
                  have hv9 : chg N Z v w = (0, N, Z) := by rw [hg]; unfold ch3; rw [if_neg (by first | assumption | omega | exact (fun q9 => by first | omega | exact absurd q9.2 (by assumption) | exact absurd q9.2.1 (by assumption) | exact absurd q9.2.2 (by assumption)))]
                  exact hret _ H _ _ _ _ _ (show some (Value.int 0) = some (Value.int ((chg N Z v w).1)) ∧ wst G T q a (chg N Z v w).2.1 (chg N Z v w).2.2 b tx L cu er le nb nc H from ⟨by rw [hv9], by rw [hv9]; exact wst_id hsc hP⟩) rfl hS (Nat.le_of_ble_eq_true rfl) (Nat.le_of_ble_eq_true rfl) dL_change_304
                · replace c_172 := cn_nle (a := (N 0)) (b := 0) (by omega) (by omega) c_172
                  refine lv_iload hx hb dL_change_278 (lv_at hl 7 rfl) ?_
                  refine lv_iconst (v := 5) hx hb dL_change_280 (by decide) ?_
                  refine lv_icmp_ge (tgt := 303) hx hb dL_change_281 (by decide) (fun c_173 => ?_) (fun c_173 => ?_)
                  · replace c_173 := cn_le (a := 5) (b := (N 2)) (by omega) (by omega) c_173
                    refine lv_iconst (v := 0) hx hb dL_change_303 (by decide) ?_
                    have hv9 : chg N Z v w = (0, N, Z) := by rw [hg]; unfold ch3; rw [if_neg (by first | assumption | omega | exact (fun q9 => by first | omega | exact absurd q9.2 (by assumption) | exact absurd q9.2.1 (by assumption) | exact absurd q9.2.2 (by assumption)))]
                    exact hret _ H _ _ _ _ _ (show some (Value.int 0) = some (Value.int ((chg N Z v w).1)) ∧ wst G T q a (chg N Z v w).2.1 (chg N Z v w).2.2 b tx L cu er le nb nc H from ⟨by rw [hv9], by rw [hv9]; exact wst_id hsc hP⟩) rfl hS (Nat.le_of_ble_eq_true rfl) (Nat.le_of_ble_eq_true rfl) dL_change_304
                  · replace c_173 := cn_nle (a := 5) (b := (N 2)) (by omega) (by omega) c_173
                    refine lv_aload_n hx hb dL_change_284 rfl (lv_at hl 2 rfl) ?_
                    refine lv_iload hx hb dL_change_285 (lv_at hl 9 rfl) ?_
                    refine lv_iload_n hx hb dL_change_287 rfl (lv_at hl 4 rfl) ?_
                    refine lv_iconst (v := 3) hx hb dL_change_288 (by decide) ?_
                    refine lv_ishr hx hb dL_change_289 ?_
                    refine lv_iconst (v := 1) hx hb dL_change_290 (by decide) ?_
                    refine lv_iload hx hb dL_change_291 (lv_at hl 6 rfl) ?_
                    refine lv_ishl hx hb dL_change_293 ?_
                    refine W.eq (g2 := F0 m 294 ls [.int (nI (2 ^ N 1)), .int (w >>> (3 &&& 31)), .int (nI (chA N v)), .ref (q 0)]) (congrArg (fun z9 => F0 m 294 ls (.int z9 :: [.int (w >>> (3 &&& 31)), .int (nI (chA N v)), .ref (q 0)])) (sh_1 (N 1) (by omega))) ?_
                    refine ro_S S hkx (mL_low l (v := (w >>> (3 &&& 31))) (k := (2 ^ N 1)) (h0 := (Nat.pow_pos (by decide))) (hk := (Nat.pow_lt_pow_right (by decide) (by omega)))) gL_change_L_low rfl idL_low.2 ⟨Nat.le_of_ble_eq_true rfl, Nat.le_of_ble_eq_true rfl⟩ rfl hl.1 rfl (Nat.le_of_ble_eq_true rfl) dL_change_294 ⟨Nat.le_of_ble_eq_true rfl, Nat.le_of_ble_eq_true rfl⟩ (fun r9 hr9 => ?_)
                    subst hr9
                    refine W.eq (g2 := F0 m 297 ls [.int (nI (lowN (w >>> (3 &&& 31)) (2 ^ N 1))), .int (nI (chA N v)), .ref (q 0)]) rfl ?_
                    refine wn_V S hkx hth (nX5_addUser l hl0 (sa := sa) (A9 := A) (h9 := (fun q h => hA q (Nat.le_trans hS.1 h))) (hP := hP) (hD := hD.weaken (fun _ _ _ _ => trivial)) (hwf := hwf) (hsc := (by omega)) (hv := (chA_lt (by omega))) (hx := (lowN_lt _ (Nat.pow_pos (by decide)))) (h8 := (by omega)) (v := (chA N v)) (x := (lowN (w >>> (3 &&& 31)) (2 ^ N 1)))) gL_change_X5_addUser rfl idX5_addUser ⟨Nat.le_of_ble_eq_true rfl, Nat.le_of_ble_eq_true rfl⟩ hP 0 rfl rfl rfl rfl hl.1 rfl (Nat.le_of_ble_eq_true rfl) dL_change_297 ⟨Nat.le_of_ble_eq_true rfl, Nat.le_of_ble_eq_true rfl⟩ hS (fr_in hD (fun q h => hA q (Nat.le_trans hS.1 h))) (fun v9 H locs hp9 hz1 hk1 hS => ?_)
                    obtain ⟨rfl, hP⟩ := hp9
                    have hP : va_P G vwCl (wMain T q a (va_up N 2 (N 2 + 1)) (uAdd N Z (nI (chA N v)) (nI (lowN (w >>> (3 &&& 31)) (2 ^ N 1)))) (svB sc b) (psh sc M N) (psh sc Y Z) (svC sc) tx L cu er le nb nc) H := hP
                    have hD : va_D A (wMain T q a (va_up N 2 (N 2 + 1)) (uAdd N Z (nI (chA N v)) (nI (lowN (w >>> (3 &&& 31)) (2 ^ N 1)))) (svB sc b) (psh sc M N) (psh sc Y Z) (svC sc) tx L cu er le nb nc) := D_perm hD sv_addr
                    have hth := hth0.kept hS.2.1
                    refine W.eq (g2 := F0 m 300 ls [.int (nI (N 2))]) rfl ?_
                    refine lv_goto (tgt := 304) hx hb dL_change_300 (by decide) ?_
                    have hv9 : chg N Z v w = ((nI (N 2)), (va_up N 2 (N 2 + 1)), (uAdd N Z (nI (chA N v)) (nI (lowN (w >>> (3 &&& 31)) (2 ^ N 1))))) := by rw [hg]; unfold ch3; rw [if_pos (by first | assumption | omega | exact ⟨by first | assumption | omega, by first | assumption | omega⟩ | exact ⟨by first | assumption | omega, by first | assumption | omega, by first | assumption | omega⟩)]
                    exact hret _ H _ _ _ _ _ (show some (Value.int (nI (N 2))) = some (Value.int ((chg N Z v w).1)) ∧ wst G T q a (chg N Z v w).2.1 (chg N Z v w).2.2 b tx L cu er le nb nc H from ⟨by rw [hv9], by rw [hv9]; exact wst_sv hsc hP⟩) rfl hS (Nat.le_of_ble_eq_true rfl) (Nat.le_of_ble_eq_true rfl) dL_change_304
              · refine lv_tableIn (off := 213) (tgt := 305) hx hb dL_change_92 (by decide) (by decide) rfl (by decide) ?_
                have hg : chg N Z v w = ch4 N Z v w := by unfold chg; rw [hcz]; rfl
                refine lv_iload hx hb dL_change_305 (lv_at hl 7 rfl) ?_
                refine lv_if_le (tgt := 328) hx hb dL_change_307 (by decide) (fun c_174 => ?_) (fun c_174 => ?_)
                · replace c_174 := cn_le (a := (N 2)) (b := 0) (by omega) (by omega) c_174
                  refine lv_iconst (v := 0) hx hb dL_change_328 (by decide) ?_
                  have hv9 : chg N Z v w = (0, N, Z) := by rw [hg]; unfold ch4; rw [if_neg (by first | assumption | omega | exact (fun q9 => by first | omega | exact absurd q9.2 (by assumption) | exact absurd q9.2.1 (by assumption) | exact absurd q9.2.2 (by assumption)))]
                  exact hret _ H _ _ _ _ _ (show some (Value.int 0) = some (Value.int ((chg N Z v w).1)) ∧ wst G T q a (chg N Z v w).2.1 (chg N Z v w).2.2 b tx L cu er le nb nc H from ⟨by rw [hv9], by rw [hv9]; exact wst_id hsc hP⟩) rfl hS (Nat.le_of_ble_eq_true rfl) (Nat.le_of_ble_eq_true rfl) dL_change_329
                · replace c_174 := cn_nle (a := (N 2)) (b := 0) (by omega) (by omega) c_174
                  refine lv_aload_n hx hb dL_change_310 rfl (lv_at hl 2 rfl) ?_
                  refine lv_iload hx hb dL_change_311 (lv_at hl 8 rfl) ?_
                  refine lv_iload hx hb dL_change_313 (lv_at hl 9 rfl) ?_
                  refine lv_iload_n hx hb dL_change_315 rfl (lv_at hl 4 rfl) ?_
                  refine lv_sipush (v := 1000) hx hb dL_change_316 (by decide) ?_
                  refine ro_S S hkx (mL_low l (v := w) (k := 1000) (h0 := (by omega)) (hk := (by omega))) gL_change_L_low rfl idL_low.2 ⟨Nat.le_of_ble_eq_true rfl, Nat.le_of_ble_eq_true rfl⟩ rfl hl.1 rfl (Nat.le_of_ble_eq_true rfl) dL_change_319 ⟨Nat.le_of_ble_eq_true rfl, Nat.le_of_ble_eq_true rfl⟩ (fun r9 hr9 => ?_)
                  subst hr9
                  refine W.eq (g2 := F0 m 322 ls [.int (nI (lowN w 1000)), .int (nI (chA N v)), .int (nI (chU N v)), .ref (q 0)]) rfl ?_
                  refine wn_V S hkx hth (nX5_pledge l hl0 (sa := sa) (A9 := A) (h9 := (fun q h => hA q (Nat.le_trans hS.1 h))) (hP := hP) (hD := hD.weaken (fun _ _ _ _ => trivial)) (hwf := hwf) (hsc := (by omega)) (hu := (chU_lt (by omega))) (hv := (chA_lt (u_v hwf (by omega)))) (hd := (by omega)) (u := (chU N v)) (v := (chA N v)) (d := (lowN w 1000))) gL_change_X5_pledge rfl idX5_pledge ⟨Nat.le_of_ble_eq_true rfl, Nat.le_of_ble_eq_true rfl⟩ hP 0 rfl rfl rfl rfl hl.1 rfl (Nat.le_of_ble_eq_true rfl) dL_change_322 ⟨Nat.le_of_ble_eq_true rfl, Nat.le_of_ble_eq_true rfl⟩ hS (fr_in hD (fun q h => hA q (Nat.le_trans hS.1 h))) (fun v9 H locs hp9 hz1 hk1 hS => ?_)
                  obtain ⟨rfl, hP⟩ := hp9
                  have hP : va_P G vwCl (wMain T q a N (uPl Z (chU N v) (nI (chA N v)) (nI (lowN w 1000))) (svB sc b) (psh sc M N) (psh sc Y Z) (svC sc) tx L cu er le nb nc) H := hP
                  have hD : va_D A (wMain T q a N (uPl Z (chU N v) (nI (chA N v)) (nI (lowN w 1000))) (svB sc b) (psh sc M N) (psh sc Y Z) (svC sc) tx L cu er le nb nc) := D_perm hD sv_addr
                  have hth := hth0.kept hS.2.1
                  refine W.eq (g2 := F0 m 325 ls [.int (Z 8 (chU N v))]) rfl ?_
                  refine lv_goto (tgt := 329) hx hb dL_change_325 (by decide) ?_
                  have hv9 : chg N Z v w = ((Z 8 (chU N v)), N, (uPl Z (chU N v) (nI (chA N v)) (nI (lowN w 1000)))) := by rw [hg]; unfold ch4; rw [if_pos (by first | assumption | omega | exact ⟨by first | assumption | omega, by first | assumption | omega⟩ | exact ⟨by first | assumption | omega, by first | assumption | omega, by first | assumption | omega⟩)]
                  exact hret _ H _ _ _ _ _ (show some (Value.int (Z 8 (chU N v))) = some (Value.int ((chg N Z v w).1)) ∧ wst G T q a (chg N Z v w).2.1 (chg N Z v w).2.2 b tx L cu er le nb nc H from ⟨by rw [hv9], by rw [hv9]; exact wst_sv hsc hP⟩) rfl hS (Nat.le_of_ble_eq_true rfl) (Nat.le_of_ble_eq_true rfl) dL_change_329
              · refine lv_tableIn (off := 213) (tgt := 305) hx hb dL_change_92 (by decide) (by decide) rfl (by decide) ?_
                have hg : chg N Z v w = ch4 N Z v w := by unfold chg; rw [hcz]; rfl
                refine lv_iload hx hb dL_change_305 (lv_at hl 7 rfl) ?_
                refine lv_if_le (tgt := 328) hx hb dL_change_307 (by decide) (fun c_175 => ?_) (fun c_175 => ?_)
                · replace c_175 := cn_le (a := (N 2)) (b := 0) (by omega) (by omega) c_175
                  refine lv_iconst (v := 0) hx hb dL_change_328 (by decide) ?_
                  have hv9 : chg N Z v w = (0, N, Z) := by rw [hg]; unfold ch4; rw [if_neg (by first | assumption | omega | exact (fun q9 => by first | omega | exact absurd q9.2 (by assumption) | exact absurd q9.2.1 (by assumption) | exact absurd q9.2.2 (by assumption)))]
                  exact hret _ H _ _ _ _ _ (show some (Value.int 0) = some (Value.int ((chg N Z v w).1)) ∧ wst G T q a (chg N Z v w).2.1 (chg N Z v w).2.2 b tx L cu er le nb nc H from ⟨by rw [hv9], by rw [hv9]; exact wst_id hsc hP⟩) rfl hS (Nat.le_of_ble_eq_true rfl) (Nat.le_of_ble_eq_true rfl) dL_change_329
                · replace c_175 := cn_nle (a := (N 2)) (b := 0) (by omega) (by omega) c_175
                  refine lv_aload_n hx hb dL_change_310 rfl (lv_at hl 2 rfl) ?_
                  refine lv_iload hx hb dL_change_311 (lv_at hl 8 rfl) ?_
                  refine lv_iload hx hb dL_change_313 (lv_at hl 9 rfl) ?_
                  refine lv_iload_n hx hb dL_change_315 rfl (lv_at hl 4 rfl) ?_
                  refine lv_sipush (v := 1000) hx hb dL_change_316 (by decide) ?_
                  refine ro_S S hkx (mL_low l (v := w) (k := 1000) (h0 := (by omega)) (hk := (by omega))) gL_change_L_low rfl idL_low.2 ⟨Nat.le_of_ble_eq_true rfl, Nat.le_of_ble_eq_true rfl⟩ rfl hl.1 rfl (Nat.le_of_ble_eq_true rfl) dL_change_319 ⟨Nat.le_of_ble_eq_true rfl, Nat.le_of_ble_eq_true rfl⟩ (fun r9 hr9 => ?_)
                  subst hr9
                  refine W.eq (g2 := F0 m 322 ls [.int (nI (lowN w 1000)), .int (nI (chA N v)), .int (nI (chU N v)), .ref (q 0)]) rfl ?_
                  refine wn_V S hkx hth (nX5_pledge l hl0 (sa := sa) (A9 := A) (h9 := (fun q h => hA q (Nat.le_trans hS.1 h))) (hP := hP) (hD := hD.weaken (fun _ _ _ _ => trivial)) (hwf := hwf) (hsc := (by omega)) (hu := (chU_lt (by omega))) (hv := (chA_lt (u_v hwf (by omega)))) (hd := (by omega)) (u := (chU N v)) (v := (chA N v)) (d := (lowN w 1000))) gL_change_X5_pledge rfl idX5_pledge ⟨Nat.le_of_ble_eq_true rfl, Nat.le_of_ble_eq_true rfl⟩ hP 0 rfl rfl rfl rfl hl.1 rfl (Nat.le_of_ble_eq_true rfl) dL_change_322 ⟨Nat.le_of_ble_eq_true rfl, Nat.le_of_ble_eq_true rfl⟩ hS (fr_in hD (fun q h => hA q (Nat.le_trans hS.1 h))) (fun v9 H locs hp9 hz1 hk1 hS => ?_)
                  obtain ⟨rfl, hP⟩ := hp9
                  have hP : va_P G vwCl (wMain T q a N (uPl Z (chU N v) (nI (chA N v)) (nI (lowN w 1000))) (svB sc b) (psh sc M N) (psh sc Y Z) (svC sc) tx L cu er le nb nc) H := hP
                  have hD : va_D A (wMain T q a N (uPl Z (chU N v) (nI (chA N v)) (nI (lowN w 1000))) (svB sc b) (psh sc M N) (psh sc Y Z) (svC sc) tx L cu er le nb nc) := D_perm hD sv_addr
                  have hth := hth0.kept hS.2.1
                  refine W.eq (g2 := F0 m 325 ls [.int (Z 8 (chU N v))]) rfl ?_
                  refine lv_goto (tgt := 329) hx hb dL_change_325 (by decide) ?_
                  have hv9 : chg N Z v w = ((Z 8 (chU N v)), N, (uPl Z (chU N v) (nI (chA N v)) (nI (lowN w 1000)))) := by rw [hg]; unfold ch4; rw [if_pos (by first | assumption | omega | exact ⟨by first | assumption | omega, by first | assumption | omega⟩ | exact ⟨by first | assumption | omega, by first | assumption | omega, by first | assumption | omega⟩)]
                  exact hret _ H _ _ _ _ _ (show some (Value.int (Z 8 (chU N v))) = some (Value.int ((chg N Z v w).1)) ∧ wst G T q a (chg N Z v w).2.1 (chg N Z v w).2.2 b tx L cu er le nb nc H from ⟨by rw [hv9], by rw [hv9]; exact wst_sv hsc hP⟩) rfl hS (Nat.le_of_ble_eq_true rfl) (Nat.le_of_ble_eq_true rfl) dL_change_329
              · refine lv_tableIn (off := 238) (tgt := 330) hx hb dL_change_92 (by decide) (by decide) rfl (by decide) ?_
                have hg : chg N Z v w = ch6 N Z v := by unfold chg; rw [hcz]; rfl
                refine lv_iload hx hb dL_change_330 (lv_at hl 7 rfl) ?_
                refine lv_if_le (tgt := 354) hx hb dL_change_332 (by decide) (fun c_176 => ?_) (fun c_176 => ?_)
                · replace c_176 := cn_le (a := (N 2)) (b := 0) (by omega) (by omega) c_176
                  refine lv_iconst (v := 0) hx hb dL_change_354 (by decide) ?_
                  have hv9 : chg N Z v w = (0, N, Z) := by rw [hg]; unfold ch6; rw [if_neg (by first | assumption | omega | exact (fun q9 => by first | omega | exact absurd q9.2 (by assumption) | exact absurd q9.2.1 (by assumption) | exact absurd q9.2.2 (by assumption)))]
                  exact hret _ H _ _ _ _ _ (show some (Value.int 0) = some (Value.int ((chg N Z v w).1)) ∧ wst G T q a (chg N Z v w).2.1 (chg N Z v w).2.2 b tx L cu er le nb nc H from ⟨by rw [hv9], by rw [hv9]; exact wst_id hsc hP⟩) rfl hS (Nat.le_of_ble_eq_true rfl) (Nat.le_of_ble_eq_true rfl) dL_change_355
                · replace c_176 := cn_nle (a := (N 2)) (b := 0) (by omega) (by omega) c_176
                  refine lv_aload_n hx hb dL_change_335 rfl (lv_at hl 2 rfl) ?_
                  refine lv_iload hx hb dL_change_336 (lv_at hl 8 rfl) ?_
                  refine lv_iconst (v := 2) hx hb dL_change_338 (by decide) ?_
                  refine rn_V S hkx hth (nX5_user l hl0 (sa := sa) (h9 := (fun q h => hA q (Nat.le_trans hS.1 h))) (hP := hP) (hwf := hwf) (hu := (chU_lt (by omega))) (hw := (by omega)) (u := (chU N v)) (w := 2)) gL_change_X5_user rfl idX5_user ⟨Nat.le_of_ble_eq_true rfl, Nat.le_of_ble_eq_true rfl⟩ hP 0 rfl rfl rfl rfl hl.1 rfl (Nat.le_of_ble_eq_true rfl) dL_change_339 ⟨Nat.le_of_ble_eq_true rfl, Nat.le_of_ble_eq_true rfl⟩ (fun v9 hv9 => ?_)
                  subst hv9
                  refine W.eq (g2 := F0 m 342 ls [.int (Z 7 (chU N v))]) rfl ?_
                  refine lv_if_lt (tgt := 354) hx hb dL_change_342 (by decide) (fun c_177 => ?_) (fun c_177 => ?_)
                  · have c_177n := Int32.not_le.mpr c_177
                    refine lv_iconst (v := 0) hx hb dL_change_354 (by decide) ?_
                    have hv9 : chg N Z v w = (0, N, Z) := by rw [hg]; unfold ch6; rw [if_neg (by first | assumption | omega | exact (fun q9 => by first | omega | exact absurd q9.2 (by assumption) | exact absurd q9.2.1 (by assumption) | exact absurd q9.2.2 (by assumption)))]
                    exact hret _ H _ _ _ _ _ (show some (Value.int 0) = some (Value.int ((chg N Z v w).1)) ∧ wst G T q a (chg N Z v w).2.1 (chg N Z v w).2.2 b tx L cu er le nb nc H from ⟨by rw [hv9], by rw [hv9]; exact wst_id hsc hP⟩) rfl hS (Nat.le_of_ble_eq_true rfl) (Nat.le_of_ble_eq_true rfl) dL_change_355
                  · have c_177n := Int32.not_lt.mp c_177
                    refine lv_aload_n hx hb dL_change_345 rfl (lv_at hl 2 rfl) ?_
                    refine lv_iload hx hb dL_change_346 (lv_at hl 8 rfl) ?_
                    refine wn_V S hkx hth (nX5_takeBack l hl0 (sa := sa) (A9 := A) (h9 := (fun q h => hA q (Nat.le_trans hS.1 h))) (hP := hP) (hD := hD.weaken (fun _ _ _ _ => trivial)) (hwf := hwf) (hsc := (by omega)) (hu := (chU_lt (by omega))) (hp := (pl_u hwf (chU_lt (by omega)) (by assumption)).1) (u := (chU N v))) gL_change_X5_takeBack rfl idX5_takeBack ⟨Nat.le_of_ble_eq_true rfl, Nat.le_of_ble_eq_true rfl⟩ hP 0 rfl rfl rfl rfl hl.1 rfl (Nat.le_of_ble_eq_true rfl) dL_change_348 ⟨Nat.le_of_ble_eq_true rfl, Nat.le_of_ble_eq_true rfl⟩ hS (fr_in hD (fun q h => hA q (Nat.le_trans hS.1 h))) (fun v9 H locs hp9 hz1 hk1 hS => ?_)
                    obtain ⟨rfl, hP⟩ := hp9
                    have hP : va_P G vwCl (wMain T q a N (uPl Z (chU N v) (-1) (-1)) (svB sc b) (psh sc M N) (psh sc Y Z) (svC sc) tx L cu er le nb nc) H := hP
                    have hD : va_D A (wMain T q a N (uPl Z (chU N v) (-1) (-1)) (svB sc b) (psh sc M N) (psh sc Y Z) (svC sc) tx L cu er le nb nc) := D_perm hD sv_addr
                    have hth := hth0.kept hS.2.1
                    refine W.eq (g2 := F0 m 351 ls [.int (Z 8 (chU N v))]) rfl ?_
                    refine lv_goto (tgt := 355) hx hb dL_change_351 (by decide) ?_
                    have hv9 : chg N Z v w = ((Z 8 (chU N v)), N, (uPl Z (chU N v) (-1) (-1))) := by rw [hg]; unfold ch6; rw [if_pos (by first | assumption | omega | exact ⟨by first | assumption | omega, by first | assumption | omega⟩ | exact ⟨by first | assumption | omega, by first | assumption | omega, by first | assumption | omega⟩)]
                    exact hret _ H _ _ _ _ _ (show some (Value.int (Z 8 (chU N v))) = some (Value.int ((chg N Z v w).1)) ∧ wst G T q a (chg N Z v w).2.1 (chg N Z v w).2.2 b tx L cu er le nb nc H from ⟨by rw [hv9], by rw [hv9]; exact wst_sv hsc hP⟩) rfl hS (Nat.le_of_ble_eq_true rfl) (Nat.le_of_ble_eq_true rfl) dL_change_355
              · refine lv_tableIn (off := 264) (tgt := 356) hx hb dL_change_92 (by decide) (by decide) rfl (by decide) ?_
                have hg : chg N Z v w = ch7 N Z v w := by unfold chg; rw [hcz]; rfl
                refine lv_iload hx hb dL_change_356 (lv_at hl 7 rfl) ?_
                refine lv_if_le (tgt := 401) hx hb dL_change_358 (by decide) (fun c_178 => ?_) (fun c_178 => ?_)
                · replace c_178 := cn_le (a := (N 2)) (b := 0) (by omega) (by omega) c_178
                  refine lv_iconst (v := 0) hx hb dL_change_401 (by decide) ?_
                  have hv9 : chg N Z v w = (0, N, Z) := by rw [hg]; unfold ch7; rw [if_neg (by first | assumption | omega | exact (fun q9 => by first | omega | exact absurd q9.2 (by assumption) | exact absurd q9.2.1 (by assumption) | exact absurd q9.2.2 (by assumption)))]
                  exact hret _ H _ _ _ _ _ (show some (Value.int 0) = some (Value.int ((chg N Z v w).1)) ∧ wst G T q a (chg N Z v w).2.1 (chg N Z v w).2.2 b tx L cu er le nb nc H from ⟨by rw [hv9], by rw [hv9]; exact wst_id hsc hP⟩) rfl hS (Nat.le_of_ble_eq_true rfl) (Nat.le_of_ble_eq_true rfl) dL_change_402
                · replace c_178 := cn_nle (a := (N 2)) (b := 0) (by omega) (by omega) c_178
                  refine lv_aload_n hx hb dL_change_361 rfl (lv_at hl 2 rfl) ?_
                  refine lv_iload hx hb dL_change_362 (lv_at hl 8 rfl) ?_
                  refine lv_iconst (v := 2) hx hb dL_change_364 (by decide) ?_
                  refine rn_V S hkx hth (nX5_user l hl0 (sa := sa) (h9 := (fun q h => hA q (Nat.le_trans hS.1 h))) (hP := hP) (hwf := hwf) (hu := (chU_lt (by omega))) (hw := (by omega)) (u := (chU N v)) (w := 2)) gL_change_X5_user rfl idX5_user ⟨Nat.le_of_ble_eq_true rfl, Nat.le_of_ble_eq_true rfl⟩ hP 0 rfl rfl rfl rfl hl.1 rfl (Nat.le_of_ble_eq_true rfl) dL_change_365 ⟨Nat.le_of_ble_eq_true rfl, Nat.le_of_ble_eq_true rfl⟩ (fun v9 hv9 => ?_)
                  subst hv9
                  refine W.eq (g2 := F0 m 368 ls [.int (Z 7 (chU N v))]) rfl ?_
                  refine lv_if_lt (tgt := 401) hx hb dL_change_368 (by decide) (fun c_179 => ?_) (fun c_179 => ?_)
                  · have c_179n := Int32.not_le.mpr c_179
                    refine lv_iconst (v := 0) hx hb dL_change_401 (by decide) ?_
                    have hv9 : chg N Z v w = (0, N, Z) := by rw [hg]; unfold ch7; rw [if_neg (by first | assumption | omega | exact (fun q9 => by first | omega | exact absurd q9.2 (by assumption) | exact absurd q9.2.1 (by assumption) | exact absurd q9.2.2 (by assumption)))]
                    exact hret _ H _ _ _ _ _ (show some (Value.int 0) = some (Value.int ((chg N Z v w).1)) ∧ wst G T q a (chg N Z v w).2.1 (chg N Z v w).2.2 b tx L cu er le nb nc H from ⟨by rw [hv9], by rw [hv9]; exact wst_id hsc hP⟩) rfl hS (Nat.le_of_ble_eq_true rfl) (Nat.le_of_ble_eq_true rfl) dL_change_402
                  · have c_179n := Int32.not_lt.mp c_179
                    refine lv_aload_n hx hb dL_change_371 rfl (lv_at hl 2 rfl) ?_
                    refine lv_iload hx hb dL_change_372 (lv_at hl 8 rfl) ?_
                    refine lv_iconst (v := 3) hx hb dL_change_374 (by decide) ?_
                    refine rn_V S hkx hth (nX5_user l hl0 (sa := sa) (h9 := (fun q h => hA q (Nat.le_trans hS.1 h))) (hP := hP) (hwf := hwf) (hu := (chU_lt (by omega))) (hw := (by omega)) (u := (chU N v)) (w := 3)) gL_change_X5_user rfl idX5_user ⟨Nat.le_of_ble_eq_true rfl, Nat.le_of_ble_eq_true rfl⟩ hP 0 rfl rfl rfl rfl hl.1 rfl (Nat.le_of_ble_eq_true rfl) dL_change_375 ⟨Nat.le_of_ble_eq_true rfl, Nat.le_of_ble_eq_true rfl⟩ (fun v9 hv9 => ?_)
                    subst hv9
                    refine W.eq (g2 := F0 m 378 ls [.int (Z 8 (chU N v))]) rfl ?_
                    refine lv_sipush (v := 900) hx hb dL_change_378 (by decide) ?_
                    refine lv_icmp_ge (tgt := 401) hx hb dL_change_381 (by decide) (fun c_180 => ?_) (fun c_180 => ?_)
                    · have c_180n := Int32.not_lt.mpr c_180
                      refine lv_iconst (v := 0) hx hb dL_change_401 (by decide) ?_
                      have hv9 : chg N Z v w = (0, N, Z) := by rw [hg]; unfold ch7; rw [if_neg (by first | assumption | omega | exact (fun q9 => by first | omega | exact absurd q9.2 (by assumption) | exact absurd q9.2.1 (by assumption) | exact absurd q9.2.2 (by assumption)))]
                      exact hret _ H _ _ _ _ _ (show some (Value.int 0) = some (Value.int ((chg N Z v w).1)) ∧ wst G T q a (chg N Z v w).2.1 (chg N Z v w).2.2 b tx L cu er le nb nc H from ⟨by rw [hv9], by rw [hv9]; exact wst_id hsc hP⟩) rfl hS (Nat.le_of_ble_eq_true rfl) (Nat.le_of_ble_eq_true rfl) dL_change_402
                    · have c_180n := Int32.not_le.mp c_180
                      refine lv_aload_n hx hb dL_change_384 rfl (lv_at hl 2 rfl) ?_
                      refine lv_iload hx hb dL_change_385 (lv_at hl 8 rfl) ?_
                      refine lv_iconst (v := 1) hx hb dL_change_387 (by decide) ?_
                      refine lv_iload_n hx hb dL_change_388 rfl (lv_at hl 4 rfl) ?_
                      refine lv_bipush (v := 99) hx hb dL_change_389 (by decide) ?_
                      refine ro_S S hkx (mL_low l (v := w) (k := 99) (h0 := (by omega)) (hk := (by omega))) gL_change_L_low rfl idL_low.2 ⟨Nat.le_of_ble_eq_true rfl, Nat.le_of_ble_eq_true rfl⟩ rfl hl.1 rfl (Nat.le_of_ble_eq_true rfl) dL_change_391 ⟨Nat.le_of_ble_eq_true rfl, Nat.le_of_ble_eq_true rfl⟩ (fun r9 hr9 => ?_)
                      subst hr9
                      refine W.eq (g2 := F0 m 394 ls [.int (nI (lowN w 99)), .int 1, .int (nI (chU N v)), .ref (q 0)]) rfl ?_
                      refine lv_iadd hx hb dL_change_394 ?_
                      refine W.eq (g2 := F0 m 395 ls [.int (nI (1 + (lowN w 99))), .int (nI (chU N v)), .ref (q 0)]) (congrArg (fun z9 => F0 m 395 ls (.int z9 :: [.int (nI (chU N v)), .ref (q 0)])) (nI_add 1 _)) ?_
                      refine wn_V S hkx hth (nX5_slip l hl0 (sa := sa) (A9 := A) (h9 := (fun q h => hA q (Nat.le_trans hS.1 h))) (hP := hP) (hD := hD.weaken (fun _ _ _ _ => trivial)) (hwf := hwf) (hsc := (by omega)) (hu := (chU_lt (by omega))) (ht1 := (by omega)) (ht := (by omega)) (hp := (pl_u hwf (chU_lt (by omega)) (by assumption)).1) (h9d := (sl_rng hwf (chU_lt (by omega)) (by assumption) (by assumption) (by omega))) (u := (chU N v)) (t := (1 + (lowN w 99)))) gL_change_X5_slip rfl idX5_slip ⟨Nat.le_of_ble_eq_true rfl, Nat.le_of_ble_eq_true rfl⟩ hP 0 rfl rfl rfl rfl hl.1 rfl (Nat.le_of_ble_eq_true rfl) dL_change_395 ⟨Nat.le_of_ble_eq_true rfl, Nat.le_of_ble_eq_true rfl⟩ hS (fr_in hD (fun q h => hA q (Nat.le_trans hS.1 h))) (fun v9 H locs hp9 hz1 hk1 hS => ?_)
                      obtain ⟨rfl, hP⟩ := hp9
                      have hP : va_P G vwCl (wMain T q a N (uSl Z (chU N v) (nI (1 + (lowN w 99)))) (svB sc b) (psh sc M N) (psh sc Y Z) (svC sc) tx L cu er le nb nc) H := hP
                      have hD : va_D A (wMain T q a N (uSl Z (chU N v) (nI (1 + (lowN w 99)))) (svB sc b) (psh sc M N) (psh sc Y Z) (svC sc) tx L cu er le nb nc) := D_perm hD sv_addr
                      have hth := hth0.kept hS.2.1
                      refine W.eq (g2 := F0 m 398 ls [.int (uSl Z (chU N v) (nI (1 + (lowN w 99))) 8 (chU N v))]) rfl ?_
                      refine lv_goto (tgt := 402) hx hb dL_change_398 (by decide) ?_
                      have hv9 : chg N Z v w = ((uSl Z (chU N v) (nI (1 + (lowN w 99))) 8 (chU N v)), N, (uSl Z (chU N v) (nI (1 + (lowN w 99))))) := by rw [hg]; unfold ch7; rw [if_pos (by first | assumption | omega | exact ⟨by first | assumption | omega, by first | assumption | omega⟩ | exact ⟨by first | assumption | omega, by first | assumption | omega, by first | assumption | omega⟩)]
                      exact hret _ H _ _ _ _ _ (show some (Value.int (uSl Z (chU N v) (nI (1 + (lowN w 99))) 8 (chU N v))) = some (Value.int ((chg N Z v w).1)) ∧ wst G T q a (chg N Z v w).2.1 (chg N Z v w).2.2 b tx L cu er le nb nc H from ⟨by rw [hv9], by rw [hv9]; exact wst_sv hsc hP⟩) rfl hS (Nat.le_of_ble_eq_true rfl) (Nat.le_of_ble_eq_true rfl) dL_change_402
              · refine lv_tableIn (off := 311) (tgt := 403) hx hb dL_change_92 (by decide) (by decide) rfl (by decide) ?_
                have hg : chg N Z v w = ch8 N Z v w := by unfold chg; rw [hcz]; rfl
                refine lv_iload_n hx hb dL_change_403 rfl (lv_at hl 5 rfl) ?_
                refine lv_if_le (tgt := 437) hx hb dL_change_404 (by decide) (fun c_181 => ?_) (fun c_181 => ?_)
                · replace c_181 := cn_le (a := (N 0)) (b := 0) (by omega) (by omega) c_181
                  refine lv_iconst (v := 0) hx hb dL_change_437 (by decide) ?_
                  have hv9 : chg N Z v w = (0, N, Z) := by rw [hg]; unfold ch8; rw [if_neg (by first | assumption | omega | exact (fun q9 => by first | omega | exact absurd q9.2 (by assumption) | exact absurd q9.2.1 (by assumption) | exact absurd q9.2.2 (by assumption)))]
                  exact hret _ H _ _ _ _ _ (show some (Value.int 0) = some (Value.int ((chg N Z v w).1)) ∧ wst G T q a (chg N Z v w).2.1 (chg N Z v w).2.2 b tx L cu er le nb nc H from ⟨by rw [hv9], by rw [hv9]; exact wst_id hsc hP⟩) rfl hS (Nat.le_of_ble_eq_true rfl) (Nat.le_of_ble_eq_true rfl) dL_change_438
                · replace c_181 := cn_nle (a := (N 0)) (b := 0) (by omega) (by omega) c_181
                  refine lv_aload_n hx hb dL_change_407 rfl (lv_at hl 2 rfl) ?_
                  refine lv_iload hx hb dL_change_408 (lv_at hl 9 rfl) ?_
                  refine lv_iconst (v := 1) hx hb dL_change_410 (by decide) ?_
                  refine rn_V S hkx hth (nX5_version l hl0 (sa := sa) (h9 := (fun q h => hA q (Nat.le_trans hS.1 h))) (hP := hP) (hwf := hwf) (hv := (chA_lt (by omega))) (hw := (by omega)) (v := (chA N v)) (w := 1)) gL_change_X5_version rfl idX5_version ⟨Nat.le_of_ble_eq_true rfl, Nat.le_of_ble_eq_true rfl⟩ hP 0 rfl rfl rfl rfl hl.1 rfl (Nat.le_of_ble_eq_true rfl) dL_change_411 ⟨Nat.le_of_ble_eq_true rfl, Nat.le_of_ble_eq_true rfl⟩ (fun v9 hv9 => ?_)
                  subst hv9
                  refine W.eq (g2 := F0 m 414 ls [.int (Z 2 (chA N v))]) rfl ?_
                  refine lv_sipush (v := 900) hx hb dL_change_414 (by decide) ?_
                  refine lv_icmp_ge (tgt := 437) hx hb dL_change_417 (by decide) (fun c_182 => ?_) (fun c_182 => ?_)
                  · have c_182n := Int32.not_lt.mpr c_182
                    refine lv_iconst (v := 0) hx hb dL_change_437 (by decide) ?_
                    have hv9 : chg N Z v w = (0, N, Z) := by rw [hg]; unfold ch8; rw [if_neg (by first | assumption | omega | exact (fun q9 => by first | omega | exact absurd q9.2 (by assumption) | exact absurd q9.2.1 (by assumption) | exact absurd q9.2.2 (by assumption)))]
                    exact hret _ H _ _ _ _ _ (show some (Value.int 0) = some (Value.int ((chg N Z v w).1)) ∧ wst G T q a (chg N Z v w).2.1 (chg N Z v w).2.2 b tx L cu er le nb nc H from ⟨by rw [hv9], by rw [hv9]; exact wst_id hsc hP⟩) rfl hS (Nat.le_of_ble_eq_true rfl) (Nat.le_of_ble_eq_true rfl) dL_change_438
                  · have c_182n := Int32.not_le.mp c_182
                    refine lv_aload_n hx hb dL_change_420 rfl (lv_at hl 2 rfl) ?_
                    refine lv_iload hx hb dL_change_421 (lv_at hl 9 rfl) ?_
                    refine lv_iconst (v := 1) hx hb dL_change_423 (by decide) ?_
                    refine lv_iload_n hx hb dL_change_424 rfl (lv_at hl 4 rfl) ?_
                    refine lv_bipush (v := 99) hx hb dL_change_425 (by decide) ?_
                    refine ro_S S hkx (mL_low l (v := w) (k := 99) (h0 := (by omega)) (hk := (by omega))) gL_change_L_low rfl idL_low.2 ⟨Nat.le_of_ble_eq_true rfl, Nat.le_of_ble_eq_true rfl⟩ rfl hl.1 rfl (Nat.le_of_ble_eq_true rfl) dL_change_427 ⟨Nat.le_of_ble_eq_true rfl, Nat.le_of_ble_eq_true rfl⟩ (fun r9 hr9 => ?_)
                    subst hr9
                    refine W.eq (g2 := F0 m 430 ls [.int (nI (lowN w 99)), .int 1, .int (nI (chA N v)), .ref (q 0)]) rfl ?_
                    refine lv_iadd hx hb dL_change_430 ?_
                    refine W.eq (g2 := F0 m 431 ls [.int (nI (1 + (lowN w 99))), .int (nI (chA N v)), .ref (q 0)]) (congrArg (fun z9 => F0 m 431 ls (.int z9 :: [.int (nI (chA N v)), .ref (q 0)])) (nI_add 1 _)) ?_
                    refine wn_V S hkx hth (nX5_extend l hl0 (sa := sa) (A9 := A) (h9 := (fun q h => hA q (Nat.le_trans hS.1 h))) (hP := hP) (hD := hD.weaken (fun _ _ _ _ => trivial)) (hwf := hwf) (hsc := (by omega)) (hv := (chA_lt (by omega))) (ht1 := (by omega)) (ht := (by omega)) (h9d := (ex_rng hwf (chA_lt (by omega)) (by assumption) (by omega))) (v := (chA N v)) (t := (1 + (lowN w 99)))) gL_change_X5_extend rfl idX5_extend ⟨Nat.le_of_ble_eq_true rfl, Nat.le_of_ble_eq_true rfl⟩ hP 0 rfl rfl rfl rfl hl.1 rfl (Nat.le_of_ble_eq_true rfl) dL_change_431 ⟨Nat.le_of_ble_eq_true rfl, Nat.le_of_ble_eq_true rfl⟩ hS (fr_in hD (fun q h => hA q (Nat.le_trans hS.1 h))) (fun v9 H locs hp9 hz1 hk1 hS => ?_)
                    obtain ⟨rfl, hP⟩ := hp9
                    have hP : va_P G vwCl (wMain T q a N (vExt Z (chA N v) (nI (1 + (lowN w 99)))) (svB sc b) (psh sc M N) (psh sc Y Z) (svC sc) tx L cu er le nb nc) H := hP
                    have hD : va_D A (wMain T q a N (vExt Z (chA N v) (nI (1 + (lowN w 99)))) (svB sc b) (psh sc M N) (psh sc Y Z) (svC sc) tx L cu er le nb nc) := D_perm hD sv_addr
                    have hth := hth0.kept hS.2.1
                    refine W.eq (g2 := F0 m 434 ls [.int (vExt Z (chA N v) (nI (1 + (lowN w 99))) 2 (chA N v))]) rfl ?_
                    refine lv_goto (tgt := 438) hx hb dL_change_434 (by decide) ?_
                    have hv9 : chg N Z v w = ((vExt Z (chA N v) (nI (1 + (lowN w 99))) 2 (chA N v)), N, (vExt Z (chA N v) (nI (1 + (lowN w 99))))) := by rw [hg]; unfold ch8; rw [if_pos (by first | assumption | omega | exact ⟨by first | assumption | omega, by first | assumption | omega⟩ | exact ⟨by first | assumption | omega, by first | assumption | omega, by first | assumption | omega⟩)]
                    exact hret _ H _ _ _ _ _ (show some (Value.int (vExt Z (chA N v) (nI (1 + (lowN w 99))) 2 (chA N v))) = some (Value.int ((chg N Z v w).1)) ∧ wst G T q a (chg N Z v w).2.1 (chg N Z v w).2.2 b tx L cu er le nb nc H from ⟨by rw [hv9], by rw [hv9]; exact wst_sv hsc hP⟩) rfl hS (Nat.le_of_ble_eq_true rfl) (Nat.le_of_ble_eq_true rfl) dL_change_438
              · refine lv_tableIn (off := 347) (tgt := 439) hx hb dL_change_92 (by decide) (by decide) rfl (by decide) ?_
                have hg : chg N Z v w = ch9 N Z v w := by unfold chg; rw [hcz]; rfl
                refine lv_iload_n hx hb dL_change_439 rfl (lv_at hl 4 rfl) ?_
                refine lv_sipush (v := 600) hx hb dL_change_440 (by decide) ?_
                refine ro_S S hkx (mL_low l (v := w) (k := 600) (h0 := (by omega)) (hk := (by omega))) gL_change_L_low rfl idL_low.2 ⟨Nat.le_of_ble_eq_true rfl, Nat.le_of_ble_eq_true rfl⟩ rfl hl.1 rfl (Nat.le_of_ble_eq_true rfl) dL_change_443 ⟨Nat.le_of_ble_eq_true rfl, Nat.le_of_ble_eq_true rfl⟩ (fun r9 hr9 => ?_)
                subst hr9
                refine W.eq (g2 := F0 m 446 ls [.int (nI (lowN w 600))]) rfl ?_
                refine lv_istore (lv' := [(10, .int (nI (lowN w 600))), (9, .int (nI (lowN w 200))), (8, .int (nI (chF N v))), (0, .ref (q 0)), (1, .int v), (2, .int w), (3, .int (nI (N 0))), (4, .int (nI (N 1))), (5, .int (nI (N 2))), (6, .int (nI (chU N v))), (7, .int (nI (chA N v)))]) hx hb dL_change_446 hl (by decide) rfl (fun ls hl => ?_)
                refine lv_iload_n hx hb dL_change_448 rfl (lv_at hl 6 rfl) ?_
                refine lv_if_le (tgt := 506) hx hb dL_change_449 (by decide) (fun c_183 => ?_) (fun c_183 => ?_)
                · replace c_183 := cn_le (a := (N 0)) (b := 0) (by omega) (by omega) c_183
                  refine lv_iconst (v := 0) hx hb dL_change_506 (by decide) ?_
                  have hv9 : chg N Z v w = (0, N, Z) := by rw [hg]; unfold ch9; rw [if_neg (by first | assumption | omega | exact (fun q9 => by first | omega | exact absurd q9.2 (by assumption) | exact absurd q9.2.1 (by assumption) | exact absurd q9.2.2 (by assumption)))]
                  exact hret _ H _ _ _ _ _ (show some (Value.int 0) = some (Value.int ((chg N Z v w).1)) ∧ wst G T q a (chg N Z v w).2.1 (chg N Z v w).2.2 b tx L cu er le nb nc H from ⟨by rw [hv9], by rw [hv9]; exact wst_id hsc hP⟩) rfl hS (Nat.le_of_ble_eq_true rfl) (Nat.le_of_ble_eq_true rfl) dL_change_507
                · replace c_183 := cn_nle (a := (N 0)) (b := 0) (by omega) (by omega) c_183
                  refine lv_iload hx hb dL_change_452 (lv_at hl 7 rfl) ?_
                  refine lv_if_le (tgt := 506) hx hb dL_change_454 (by decide) (fun c_184 => ?_) (fun c_184 => ?_)
                  · replace c_184 := cn_le (a := (N 1)) (b := 0) (by omega) (by omega) c_184
                    refine lv_iconst (v := 0) hx hb dL_change_506 (by decide) ?_
                    have hv9 : chg N Z v w = (0, N, Z) := by rw [hg]; unfold ch9; rw [if_neg (by first | assumption | omega | exact (fun q9 => by first | omega | exact absurd q9.2 (by assumption) | exact absurd q9.2.1 (by assumption) | exact absurd q9.2.2 (by assumption)))]
                    exact hret _ H _ _ _ _ _ (show some (Value.int 0) = some (Value.int ((chg N Z v w).1)) ∧ wst G T q a (chg N Z v w).2.1 (chg N Z v w).2.2 b tx L cu er le nb nc H from ⟨by rw [hv9], by rw [hv9]; exact wst_id hsc hP⟩) rfl hS (Nat.le_of_ble_eq_true rfl) (Nat.le_of_ble_eq_true rfl) dL_change_507
                  · replace c_184 := cn_nle (a := (N 1)) (b := 0) (by omega) (by omega) c_184
                    refine lv_aload_n hx hb dL_change_457 rfl (lv_at hl 3 rfl) ?_
                    refine lv_iconst (v := 3) hx hb dL_change_458 (by decide) ?_
                    refine rn_V S hkx hth (nX5_value l hl0 (sa := sa) (h9 := (fun q h => hA q (Nat.le_trans hS.1 h))) (hP := hP) (hwf := hwf) (hw := (by omega)) (w := 3)) gL_change_X5_value rfl idX5_value ⟨Nat.le_of_ble_eq_true rfl, Nat.le_of_ble_eq_true rfl⟩ hP 0 rfl rfl rfl rfl hl.1 rfl (Nat.le_of_ble_eq_true rfl) dL_change_459 ⟨Nat.le_of_ble_eq_true rfl, Nat.le_of_ble_eq_true rfl⟩ (fun v9 hv9 => ?_)
                    subst hv9
                    refine W.eq (g2 := F0 m 462 ls [.int (nI (N 3))]) rfl ?_
                    refine lv_bipush (v := 6) hx hb dL_change_462 (by decide) ?_
                    refine lv_icmp_ge (tgt := 506) hx hb dL_change_464 (by decide) (fun c_185 => ?_) (fun c_185 => ?_)
                    · replace c_185 := cn_le (a := 6) (b := (N 3)) (by omega) (by omega) c_185
                      refine lv_iconst (v := 0) hx hb dL_change_506 (by decide) ?_
                      have hv9 : chg N Z v w = (0, N, Z) := by rw [hg]; unfold ch9; rw [if_neg (by first | assumption | omega | exact (fun q9 => by first | omega | exact absurd q9.2 (by assumption) | exact absurd q9.2.1 (by assumption) | exact absurd q9.2.2 (by assumption)))]
                      exact hret _ H _ _ _ _ _ (show some (Value.int 0) = some (Value.int ((chg N Z v w).1)) ∧ wst G T q a (chg N Z v w).2.1 (chg N Z v w).2.2 b tx L cu er le nb nc H from ⟨by rw [hv9], by rw [hv9]; exact wst_id hsc hP⟩) rfl hS (Nat.le_of_ble_eq_true rfl) (Nat.le_of_ble_eq_true rfl) dL_change_507
                    · replace c_185 := cn_nle (a := 6) (b := (N 3)) (by omega) (by omega) c_185
                      refine lv_aload_n hx hb dL_change_467 rfl (lv_at hl 3 rfl) ?_
                      refine lv_iload hx hb dL_change_468 (lv_at hl 2 rfl) ?_
                      refine lv_iload hx hb dL_change_470 (lv_at hl 10 rfl) ?_
                      refine lv_iload hx hb dL_change_472 (lv_at hl 0 rfl) ?_
                      refine lv_iload hx hb dL_change_474 (lv_at hl 0 rfl) ?_
                      refine lv_iload_n hx hb dL_change_476 rfl (lv_at hl 5 rfl) ?_
                      refine lv_bipush (v := 10) hx hb dL_change_477 (by decide) ?_
                      refine lv_ishr hx hb dL_change_479 ?_
                      refine lv_sipush (v := 1000) hx hb dL_change_480 (by decide) ?_
                      refine lv_iload hx hb dL_change_483 (lv_at hl 0 rfl) ?_
                      refine lv_isub hx hb dL_change_485 ?_
                      refine W.eq (g2 := F0 m 486 ls [.int (nI (1000 - (lowN w 600))), .int (w >>> (10 &&& 31)), .int (nI (lowN w 600)), .int (nI (lowN w 600)), .int (nI (chA N v)), .int (nI (chF N v)), .ref (q 0)]) (congrArg (fun z9 => F0 m 486 ls (.int z9 :: [.int (w >>> (10 &&& 31)), .int (nI (lowN w 600)), .int (nI (lowN w 600)), .int (nI (chA N v)), .int (nI (chF N v)), .ref (q 0)])) (pk_sub (a := 1000) (b := (lowN w 600)) (by omega))) ?_
                      refine ro_S S hkx (mL_low l (v := (w >>> (10 &&& 31))) (k := (1000 - (lowN w 600))) (h0 := (by omega)) (hk := (by omega))) gL_change_L_low rfl idL_low.2 ⟨Nat.le_of_ble_eq_true rfl, Nat.le_of_ble_eq_true rfl⟩ rfl hl.1 rfl (Nat.le_of_ble_eq_true rfl) dL_change_486 ⟨Nat.le_of_ble_eq_true rfl, Nat.le_of_ble_eq_true rfl⟩ (fun r9 hr9 => ?_)
                      subst hr9
                      refine W.eq (g2 := F0 m 489 ls [.int (nI (lowN (w >>> (10 &&& 31)) (1000 - (lowN w 600)))), .int (nI (lowN w 600)), .int (nI (lowN w 600)), .int (nI (chA N v)), .int (nI (chF N v)), .ref (q 0)]) rfl ?_
                      refine lv_iadd hx hb dL_change_489 ?_
                      refine W.eq (g2 := F0 m 490 ls [.int (nI ((lowN w 600) + (lowN (w >>> (10 &&& 31)) (1000 - (lowN w 600))))), .int (nI (lowN w 600)), .int (nI (chA N v)), .int (nI (chF N v)), .ref (q 0)]) (congrArg (fun z9 => F0 m 490 ls (.int z9 :: [.int (nI (lowN w 600)), .int (nI (chA N v)), .int (nI (chF N v)), .ref (q 0)])) (nI_add _ _)) ?_
                      refine lv_iconst (v := 1) hx hb dL_change_490 (by decide) ?_
                      refine lv_iload_n hx hb dL_change_491 rfl (lv_at hl 5 rfl) ?_
                      refine lv_iconst (v := 4) hx hb dL_change_492 (by decide) ?_
                      refine lv_ishr hx hb dL_change_493 ?_
                      refine lv_bipush (v := 99) hx hb dL_change_494 (by decide) ?_
                      refine ro_S S hkx (mL_low l (v := (w >>> (4 &&& 31))) (k := 99) (h0 := (by omega)) (hk := (by omega))) gL_change_L_low rfl idL_low.2 ⟨Nat.le_of_ble_eq_true rfl, Nat.le_of_ble_eq_true rfl⟩ rfl hl.1 rfl (Nat.le_of_ble_eq_true rfl) dL_change_496 ⟨Nat.le_of_ble_eq_true rfl, Nat.le_of_ble_eq_true rfl⟩ (fun r9 hr9 => ?_)
                      subst hr9
                      refine W.eq (g2 := F0 m 499 ls [.int (nI (lowN (w >>> (4 &&& 31)) 99)), .int 1, .int (nI ((lowN w 600) + (lowN (w >>> (10 &&& 31)) (1000 - (lowN w 600))))), .int (nI (lowN w 600)), .int (nI (chA N v)), .int (nI (chF N v)), .ref (q 0)]) rfl ?_
                      refine lv_iadd hx hb dL_change_499 ?_
                      refine W.eq (g2 := F0 m 500 ls [.int (nI (1 + (lowN (w >>> (4 &&& 31)) 99))), .int (nI ((lowN w 600) + (lowN (w >>> (10 &&& 31)) (1000 - (lowN w 600))))), .int (nI (lowN w 600)), .int (nI (chA N v)), .int (nI (chF N v)), .ref (q 0)]) (congrArg (fun z9 => F0 m 500 ls (.int z9 :: [.int (nI ((lowN w 600) + (lowN (w >>> (10 &&& 31)) (1000 - (lowN w 600))))), .int (nI (lowN w 600)), .int (nI (chA N v)), .int (nI (chF N v)), .ref (q 0)])) (nI_add 1 _)) ?_
                      refine wn_V S hkx hth (nX5_addShim l hl0 (sa := sa) (A9 := A) (h9 := (fun q h => hA q (Nat.le_trans hS.1 h))) (hP := hP) (hD := hD.weaken (fun _ _ _ _ => trivial)) (hwf := hwf) (hsc := (by omega)) (hf := (chF_lt (by omega))) (hv := (chA_lt (by omega))) (hx := (by omega)) (hz := (by omega)) (hy1 := (by omega)) (hy := (by omega)) (h8 := (by omega)) (f := (chF N v)) (v := (chA N v)) (x := (lowN w 600)) (z := ((lowN w 600) + (lowN (w >>> (10 &&& 31)) (1000 - (lowN w 600))))) (y := (1 + (lowN (w >>> (4 &&& 31)) 99)))) gL_change_X5_addShim rfl idX5_addShim ⟨Nat.le_of_ble_eq_true rfl, Nat.le_of_ble_eq_true rfl⟩ hP 0 rfl rfl rfl rfl hl.1 rfl (Nat.le_of_ble_eq_true rfl) dL_change_500 ⟨Nat.le_of_ble_eq_true rfl, Nat.le_of_ble_eq_true rfl⟩ hS (fr_in hD (fun q h => hA q (Nat.le_trans hS.1 h))) (fun v9 H locs hp9 hz1 hk1 hS => ?_)
                      obtain ⟨rfl, hP⟩ := hp9
                      have hP : va_P G vwCl (wMain T q a (va_up N 3 (N 3 + 1)) (sAdd N Z (nI (chF N v)) (nI (chA N v)) (nI (lowN w 600)) (nI ((lowN w 600) + (lowN (w >>> (10 &&& 31)) (1000 - (lowN w 600))))) (nI (1 + (lowN (w >>> (4 &&& 31)) 99)))) (svB sc b) (psh sc M N) (psh sc Y Z) (svC sc) tx L cu er le nb nc) H := hP
                      have hD : va_D A (wMain T q a (va_up N 3 (N 3 + 1)) (sAdd N Z (nI (chF N v)) (nI (chA N v)) (nI (lowN w 600)) (nI ((lowN w 600) + (lowN (w >>> (10 &&& 31)) (1000 - (lowN w 600))))) (nI (1 + (lowN (w >>> (4 &&& 31)) 99)))) (svB sc b) (psh sc M N) (psh sc Y Z) (svC sc) tx L cu er le nb nc) := D_perm hD sv_addr
                      have hth := hth0.kept hS.2.1
                      refine W.eq (g2 := F0 m 503 ls [.int (nI (N 3))]) rfl ?_
                      refine lv_goto (tgt := 507) hx hb dL_change_503 (by decide) ?_
                      have hv9 : chg N Z v w = ((nI (N 3)), (va_up N 3 (N 3 + 1)), (sAdd N Z (nI (chF N v)) (nI (chA N v)) (nI (lowN w 600)) (nI ((lowN w 600) + (lowN (w >>> (10 &&& 31)) (1000 - (lowN w 600))))) (nI (1 + (lowN (w >>> (4 &&& 31)) 99))))) := by rw [hg]; unfold ch9; rw [if_pos (by first | assumption | omega | exact ⟨by first | assumption | omega, by first | assumption | omega⟩ | exact ⟨by first | assumption | omega, by first | assumption | omega, by first | assumption | omega⟩)]
                      exact hret _ H _ _ _ _ _ (show some (Value.int (nI (N 3))) = some (Value.int ((chg N Z v w).1)) ∧ wst G T q a (chg N Z v w).2.1 (chg N Z v w).2.2 b tx L cu er le nb nc H from ⟨by rw [hv9], by rw [hv9]; exact wst_sv hsc hP⟩) rfl hS (Nat.le_of_ble_eq_true rfl) (Nat.le_of_ble_eq_true rfl) dL_change_507
              · refine lv_tableIn (off := 347) (tgt := 439) hx hb dL_change_92 (by decide) (by decide) rfl (by decide) ?_
                have hg : chg N Z v w = ch9 N Z v w := by unfold chg; rw [hcz]; rfl
                refine lv_iload_n hx hb dL_change_439 rfl (lv_at hl 4 rfl) ?_
                refine lv_sipush (v := 600) hx hb dL_change_440 (by decide) ?_
                refine ro_S S hkx (mL_low l (v := w) (k := 600) (h0 := (by omega)) (hk := (by omega))) gL_change_L_low rfl idL_low.2 ⟨Nat.le_of_ble_eq_true rfl, Nat.le_of_ble_eq_true rfl⟩ rfl hl.1 rfl (Nat.le_of_ble_eq_true rfl) dL_change_443 ⟨Nat.le_of_ble_eq_true rfl, Nat.le_of_ble_eq_true rfl⟩ (fun r9 hr9 => ?_)
                subst hr9
                refine W.eq (g2 := F0 m 446 ls [.int (nI (lowN w 600))]) rfl ?_
                refine lv_istore (lv' := [(10, .int (nI (lowN w 600))), (9, .int (nI (lowN w 200))), (8, .int (nI (chF N v))), (0, .ref (q 0)), (1, .int v), (2, .int w), (3, .int (nI (N 0))), (4, .int (nI (N 1))), (5, .int (nI (N 2))), (6, .int (nI (chU N v))), (7, .int (nI (chA N v)))]) hx hb dL_change_446 hl (by decide) rfl (fun ls hl => ?_)
                refine lv_iload_n hx hb dL_change_448 rfl (lv_at hl 6 rfl) ?_
                refine lv_if_le (tgt := 506) hx hb dL_change_449 (by decide) (fun c_186 => ?_) (fun c_186 => ?_)
                · replace c_186 := cn_le (a := (N 0)) (b := 0) (by omega) (by omega) c_186
                  refine lv_iconst (v := 0) hx hb dL_change_506 (by decide) ?_
                  have hv9 : chg N Z v w = (0, N, Z) := by rw [hg]; unfold ch9; rw [if_neg (by first | assumption | omega | exact (fun q9 => by first | omega | exact absurd q9.2 (by assumption) | exact absurd q9.2.1 (by assumption) | exact absurd q9.2.2 (by assumption)))]
                  exact hret _ H _ _ _ _ _ (show some (Value.int 0) = some (Value.int ((chg N Z v w).1)) ∧ wst G T q a (chg N Z v w).2.1 (chg N Z v w).2.2 b tx L cu er le nb nc H from ⟨by rw [hv9], by rw [hv9]; exact wst_id hsc hP⟩) rfl hS (Nat.le_of_ble_eq_true rfl) (Nat.le_of_ble_eq_true rfl) dL_change_507
                · replace c_186 := cn_nle (a := (N 0)) (b := 0) (by omega) (by omega) c_186
                  refine lv_iload hx hb dL_change_452 (lv_at hl 7 rfl) ?_
                  refine lv_if_le (tgt := 506) hx hb dL_change_454 (by decide) (fun c_187 => ?_) (fun c_187 => ?_)
                  · replace c_187 := cn_le (a := (N 1)) (b := 0) (by omega) (by omega) c_187
                    refine lv_iconst (v := 0) hx hb dL_change_506 (by decide) ?_
                    have hv9 : chg N Z v w = (0, N, Z) := by rw [hg]; unfold ch9; rw [if_neg (by first | assumption | omega | exact (fun q9 => by first | omega | exact absurd q9.2 (by assumption) | exact absurd q9.2.1 (by assumption) | exact absurd q9.2.2 (by assumption)))]
                    exact hret _ H _ _ _ _ _ (show some (Value.int 0) = some (Value.int ((chg N Z v w).1)) ∧ wst G T q a (chg N Z v w).2.1 (chg N Z v w).2.2 b tx L cu er le nb nc H from ⟨by rw [hv9], by rw [hv9]; exact wst_id hsc hP⟩) rfl hS (Nat.le_of_ble_eq_true rfl) (Nat.le_of_ble_eq_true rfl) dL_change_507
                  · replace c_187 := cn_nle (a := (N 1)) (b := 0) (by omega) (by omega) c_187
                    refine lv_aload_n hx hb dL_change_457 rfl (lv_at hl 3 rfl) ?_
                    refine lv_iconst (v := 3) hx hb dL_change_458 (by decide) ?_
                    refine rn_V S hkx hth (nX5_value l hl0 (sa := sa) (h9 := (fun q h => hA q (Nat.le_trans hS.1 h))) (hP := hP) (hwf := hwf) (hw := (by omega)) (w := 3)) gL_change_X5_value rfl idX5_value ⟨Nat.le_of_ble_eq_true rfl, Nat.le_of_ble_eq_true rfl⟩ hP 0 rfl rfl rfl rfl hl.1 rfl (Nat.le_of_ble_eq_true rfl) dL_change_459 ⟨Nat.le_of_ble_eq_true rfl, Nat.le_of_ble_eq_true rfl⟩ (fun v9 hv9 => ?_)
                    subst hv9
                    refine W.eq (g2 := F0 m 462 ls [.int (nI (N 3))]) rfl ?_
                    refine lv_bipush (v := 6) hx hb dL_change_462 (by decide) ?_
                    refine lv_icmp_ge (tgt := 506) hx hb dL_change_464 (by decide) (fun c_188 => ?_) (fun c_188 => ?_)
                    · replace c_188 := cn_le (a := 6) (b := (N 3)) (by omega) (by omega) c_188
                      refine lv_iconst (v := 0) hx hb dL_change_506 (by decide) ?_
                      have hv9 : chg N Z v w = (0, N, Z) := by rw [hg]; unfold ch9; rw [if_neg (by first | assumption | omega | exact (fun q9 => by first | omega | exact absurd q9.2 (by assumption) | exact absurd q9.2.1 (by assumption) | exact absurd q9.2.2 (by assumption)))]
                      exact hret _ H _ _ _ _ _ (show some (Value.int 0) = some (Value.int ((chg N Z v w).1)) ∧ wst G T q a (chg N Z v w).2.1 (chg N Z v w).2.2 b tx L cu er le nb nc H from ⟨by rw [hv9], by rw [hv9]; exact wst_id hsc hP⟩) rfl hS (Nat.le_of_ble_eq_true rfl) (Nat.le_of_ble_eq_true rfl) dL_change_507
                    · replace c_188 := cn_nle (a := 6) (b := (N 3)) (by omega) (by omega) c_188
                      refine lv_aload_n hx hb dL_change_467 rfl (lv_at hl 3 rfl) ?_
                      refine lv_iload hx hb dL_change_468 (lv_at hl 2 rfl) ?_
                      refine lv_iload hx hb dL_change_470 (lv_at hl 10 rfl) ?_
                      refine lv_iload hx hb dL_change_472 (lv_at hl 0 rfl) ?_
                      refine lv_iload hx hb dL_change_474 (lv_at hl 0 rfl) ?_
                      refine lv_iload_n hx hb dL_change_476 rfl (lv_at hl 5 rfl) ?_
                      refine lv_bipush (v := 10) hx hb dL_change_477 (by decide) ?_
                      refine lv_ishr hx hb dL_change_479 ?_
                      refine lv_sipush (v := 1000) hx hb dL_change_480 (by decide) ?_
                      refine lv_iload hx hb dL_change_483 (lv_at hl 0 rfl) ?_
                      refine lv_isub hx hb dL_change_485 ?_
                      refine W.eq (g2 := F0 m 486 ls [.int (nI (1000 - (lowN w 600))), .int (w >>> (10 &&& 31)), .int (nI (lowN w 600)), .int (nI (lowN w 600)), .int (nI (chA N v)), .int (nI (chF N v)), .ref (q 0)]) (congrArg (fun z9 => F0 m 486 ls (.int z9 :: [.int (w >>> (10 &&& 31)), .int (nI (lowN w 600)), .int (nI (lowN w 600)), .int (nI (chA N v)), .int (nI (chF N v)), .ref (q 0)])) (pk_sub (a := 1000) (b := (lowN w 600)) (by omega))) ?_
                      refine ro_S S hkx (mL_low l (v := (w >>> (10 &&& 31))) (k := (1000 - (lowN w 600))) (h0 := (by omega)) (hk := (by omega))) gL_change_L_low rfl idL_low.2 ⟨Nat.le_of_ble_eq_true rfl, Nat.le_of_ble_eq_true rfl⟩ rfl hl.1 rfl (Nat.le_of_ble_eq_true rfl) dL_change_486 ⟨Nat.le_of_ble_eq_true rfl, Nat.le_of_ble_eq_true rfl⟩ (fun r9 hr9 => ?_)
                      subst hr9
                      refine W.eq (g2 := F0 m 489 ls [.int (nI (lowN (w >>> (10 &&& 31)) (1000 - (lowN w 600)))), .int (nI (lowN w 600)), .int (nI (lowN w 600)), .int (nI (chA N v)), .int (nI (chF N v)), .ref (q 0)]) rfl ?_
                      refine lv_iadd hx hb dL_change_489 ?_
                      refine W.eq (g2 := F0 m 490 ls [.int (nI ((lowN w 600) + (lowN (w >>> (10 &&& 31)) (1000 - (lowN w 600))))), .int (nI (lowN w 600)), .int (nI (chA N v)), .int (nI (chF N v)), .ref (q 0)]) (congrArg (fun z9 => F0 m 490 ls (.int z9 :: [.int (nI (lowN w 600)), .int (nI (chA N v)), .int (nI (chF N v)), .ref (q 0)])) (nI_add _ _)) ?_
                      refine lv_iconst (v := 1) hx hb dL_change_490 (by decide) ?_
                      refine lv_iload_n hx hb dL_change_491 rfl (lv_at hl 5 rfl) ?_
                      refine lv_iconst (v := 4) hx hb dL_change_492 (by decide) ?_
                      refine lv_ishr hx hb dL_change_493 ?_
                      refine lv_bipush (v := 99) hx hb dL_change_494 (by decide) ?_
                      refine ro_S S hkx (mL_low l (v := (w >>> (4 &&& 31))) (k := 99) (h0 := (by omega)) (hk := (by omega))) gL_change_L_low rfl idL_low.2 ⟨Nat.le_of_ble_eq_true rfl, Nat.le_of_ble_eq_true rfl⟩ rfl hl.1 rfl (Nat.le_of_ble_eq_true rfl) dL_change_496 ⟨Nat.le_of_ble_eq_true rfl, Nat.le_of_ble_eq_true rfl⟩ (fun r9 hr9 => ?_)
                      subst hr9
                      refine W.eq (g2 := F0 m 499 ls [.int (nI (lowN (w >>> (4 &&& 31)) 99)), .int 1, .int (nI ((lowN w 600) + (lowN (w >>> (10 &&& 31)) (1000 - (lowN w 600))))), .int (nI (lowN w 600)), .int (nI (chA N v)), .int (nI (chF N v)), .ref (q 0)]) rfl ?_
                      refine lv_iadd hx hb dL_change_499 ?_
                      refine W.eq (g2 := F0 m 500 ls [.int (nI (1 + (lowN (w >>> (4 &&& 31)) 99))), .int (nI ((lowN w 600) + (lowN (w >>> (10 &&& 31)) (1000 - (lowN w 600))))), .int (nI (lowN w 600)), .int (nI (chA N v)), .int (nI (chF N v)), .ref (q 0)]) (congrArg (fun z9 => F0 m 500 ls (.int z9 :: [.int (nI ((lowN w 600) + (lowN (w >>> (10 &&& 31)) (1000 - (lowN w 600))))), .int (nI (lowN w 600)), .int (nI (chA N v)), .int (nI (chF N v)), .ref (q 0)])) (nI_add 1 _)) ?_
                      refine wn_V S hkx hth (nX5_addShim l hl0 (sa := sa) (A9 := A) (h9 := (fun q h => hA q (Nat.le_trans hS.1 h))) (hP := hP) (hD := hD.weaken (fun _ _ _ _ => trivial)) (hwf := hwf) (hsc := (by omega)) (hf := (chF_lt (by omega))) (hv := (chA_lt (by omega))) (hx := (by omega)) (hz := (by omega)) (hy1 := (by omega)) (hy := (by omega)) (h8 := (by omega)) (f := (chF N v)) (v := (chA N v)) (x := (lowN w 600)) (z := ((lowN w 600) + (lowN (w >>> (10 &&& 31)) (1000 - (lowN w 600))))) (y := (1 + (lowN (w >>> (4 &&& 31)) 99)))) gL_change_X5_addShim rfl idX5_addShim ⟨Nat.le_of_ble_eq_true rfl, Nat.le_of_ble_eq_true rfl⟩ hP 0 rfl rfl rfl rfl hl.1 rfl (Nat.le_of_ble_eq_true rfl) dL_change_500 ⟨Nat.le_of_ble_eq_true rfl, Nat.le_of_ble_eq_true rfl⟩ hS (fr_in hD (fun q h => hA q (Nat.le_trans hS.1 h))) (fun v9 H locs hp9 hz1 hk1 hS => ?_)
                      obtain ⟨rfl, hP⟩ := hp9
                      have hP : va_P G vwCl (wMain T q a (va_up N 3 (N 3 + 1)) (sAdd N Z (nI (chF N v)) (nI (chA N v)) (nI (lowN w 600)) (nI ((lowN w 600) + (lowN (w >>> (10 &&& 31)) (1000 - (lowN w 600))))) (nI (1 + (lowN (w >>> (4 &&& 31)) 99)))) (svB sc b) (psh sc M N) (psh sc Y Z) (svC sc) tx L cu er le nb nc) H := hP
                      have hD : va_D A (wMain T q a (va_up N 3 (N 3 + 1)) (sAdd N Z (nI (chF N v)) (nI (chA N v)) (nI (lowN w 600)) (nI ((lowN w 600) + (lowN (w >>> (10 &&& 31)) (1000 - (lowN w 600))))) (nI (1 + (lowN (w >>> (4 &&& 31)) 99)))) (svB sc b) (psh sc M N) (psh sc Y Z) (svC sc) tx L cu er le nb nc) := D_perm hD sv_addr
                      have hth := hth0.kept hS.2.1
                      refine W.eq (g2 := F0 m 503 ls [.int (nI (N 3))]) rfl ?_
                      refine lv_goto (tgt := 507) hx hb dL_change_503 (by decide) ?_
                      have hv9 : chg N Z v w = ((nI (N 3)), (va_up N 3 (N 3 + 1)), (sAdd N Z (nI (chF N v)) (nI (chA N v)) (nI (lowN w 600)) (nI ((lowN w 600) + (lowN (w >>> (10 &&& 31)) (1000 - (lowN w 600))))) (nI (1 + (lowN (w >>> (4 &&& 31)) 99))))) := by rw [hg]; unfold ch9; rw [if_pos (by first | assumption | omega | exact ⟨by first | assumption | omega, by first | assumption | omega⟩ | exact ⟨by first | assumption | omega, by first | assumption | omega, by first | assumption | omega⟩)]
                      exact hret _ H _ _ _ _ _ (show some (Value.int (nI (N 3))) = some (Value.int ((chg N Z v w).1)) ∧ wst G T q a (chg N Z v w).2.1 (chg N Z v w).2.2 b tx L cu er le nb nc H from ⟨by rw [hv9], by rw [hv9]; exact wst_sv hsc hP⟩) rfl hS (Nat.le_of_ble_eq_true rfl) (Nat.le_of_ble_eq_true rfl) dL_change_507
              · refine lv_tableOut (tgt := 508) hx hb dL_change_92 (Or.inr (by decide)) (by decide) ?_
                have hg : chg N Z v w = chB N Z w := by unfold chg; rw [hcz]; rfl
                refine lv_aload_n hx hb dL_change_508 rfl (lv_at hl 2 rfl) ?_
                refine lv_iconst (v := 3) hx hb dL_change_509 (by decide) ?_
                refine rn_V S hkx hth (nX5_value l hl0 (sa := sa) (h9 := (fun q h => hA q (Nat.le_trans hS.1 h))) (hP := hP) (hwf := hwf) (hw := (by omega)) (w := 3)) gL_change_X5_value rfl idX5_value ⟨Nat.le_of_ble_eq_true rfl, Nat.le_of_ble_eq_true rfl⟩ hP 0 rfl rfl rfl rfl hl.1 rfl (Nat.le_of_ble_eq_true rfl) dL_change_510 ⟨Nat.le_of_ble_eq_true rfl, Nat.le_of_ble_eq_true rfl⟩ (fun v9 hv9 => ?_)
                subst hv9
                refine W.eq (g2 := F0 m 513 ls [.int (nI (N 3))]) rfl ?_
                refine lv_if_le (tgt := 532) hx hb dL_change_513 (by decide) (fun c_189 => ?_) (fun c_189 => ?_)
                · replace c_189 := cn_le (a := (N 3)) (b := 0) (by omega) (by omega) c_189
                  refine lv_iconst (v := 0) hx hb dL_change_532 (by decide) ?_
                  have hv9 : chg N Z v w = (0, N, Z) := by rw [hg]; unfold chB; rw [if_neg (by first | assumption | omega | exact (fun q9 => by first | omega | exact absurd q9.2 (by assumption) | exact absurd q9.2.1 (by assumption) | exact absurd q9.2.2 (by assumption)))]
                  exact hret _ H _ _ _ _ _ (show some (Value.int 0) = some (Value.int ((chg N Z v w).1)) ∧ wst G T q a (chg N Z v w).2.1 (chg N Z v w).2.2 b tx L cu er le nb nc H from ⟨by rw [hv9], by rw [hv9]; exact wst_id hsc hP⟩) rfl hS (Nat.le_of_ble_eq_true rfl) (Nat.le_of_ble_eq_true rfl) dL_change_533
                · replace c_189 := cn_nle (a := (N 3)) (b := 0) (by omega) (by omega) c_189
                  refine lv_aload_n hx hb dL_change_516 rfl (lv_at hl 2 rfl) ?_
                  refine lv_iload_n hx hb dL_change_517 rfl (lv_at hl 4 rfl) ?_
                  refine lv_aload_n hx hb dL_change_518 rfl (lv_at hl 2 rfl) ?_
                  refine lv_iconst (v := 3) hx hb dL_change_519 (by decide) ?_
                  refine rn_V S hkx hth (nX5_value l hl0 (sa := sa) (h9 := (fun q h => hA q (Nat.le_trans hS.1 h))) (hP := hP) (hwf := hwf) (hw := (by omega)) (w := 3)) gL_change_X5_value rfl idX5_value ⟨Nat.le_of_ble_eq_true rfl, Nat.le_of_ble_eq_true rfl⟩ hP 0 rfl rfl rfl rfl hl.1 rfl (Nat.le_of_ble_eq_true rfl) dL_change_520 ⟨Nat.le_of_ble_eq_true rfl, Nat.le_of_ble_eq_true rfl⟩ (fun v9 hv9 => ?_)
                  subst hv9
                  refine W.eq (g2 := F0 m 523 ls [.int (nI (N 3)), .int w, .ref (q 0)]) rfl ?_
                  refine ro_S S hkx (mL_low l (v := w) (k := (N 3)) (h0 := (by omega)) (hk := (by omega))) gL_change_L_low rfl idL_low.2 ⟨Nat.le_of_ble_eq_true rfl, Nat.le_of_ble_eq_true rfl⟩ rfl hl.1 rfl (Nat.le_of_ble_eq_true rfl) dL_change_523 ⟨Nat.le_of_ble_eq_true rfl, Nat.le_of_ble_eq_true rfl⟩ (fun r9 hr9 => ?_)
                  subst hr9
                  refine W.eq (g2 := F0 m 526 ls [.int (nI (lowN w (N 3))), .ref (q 0)]) rfl ?_
                  refine wn_V S hkx hth (nX5_dropShim l hl0 (sa := sa) (A9 := A) (h9 := (fun q h => hA q (Nat.le_trans hS.1 h))) (hP := hP) (hD := hD.weaken (fun _ _ _ _ => trivial)) (hwf := hwf) (hsc := (by omega)) (ht := (lowN_lt w (by omega))) (t := (lowN w (N 3)))) gL_change_X5_dropShim rfl idX5_dropShim ⟨Nat.le_of_ble_eq_true rfl, Nat.le_of_ble_eq_true rfl⟩ hP 0 rfl rfl rfl rfl hl.1 rfl (Nat.le_of_ble_eq_true rfl) dL_change_526 ⟨Nat.le_of_ble_eq_true rfl, Nat.le_of_ble_eq_true rfl⟩ hS (fr_in hD (fun q h => hA q (Nat.le_trans hS.1 h))) (fun v9 H locs hp9 hz1 hk1 hS => ?_)
                  obtain ⟨rfl, hP⟩ := hp9
                  have hP : va_P G vwCl (wMain T q a (va_up N 3 (N 3 - 1)) (sDel Z (lowN w (N 3)) (N 3 - 1)) (svB sc b) (psh sc M N) (psh sc Y Z) (svC sc) tx L cu er le nb nc) H := hP
                  have hD : va_D A (wMain T q a (va_up N 3 (N 3 - 1)) (sDel Z (lowN w (N 3)) (N 3 - 1)) (svB sc b) (psh sc M N) (psh sc Y Z) (svC sc) tx L cu er le nb nc) := D_perm hD sv_addr
                  have hth := hth0.kept hS.2.1
                  refine W.eq (g2 := F0 m 529 ls [.int (nI (N 3 - 1))]) rfl ?_
                  refine lv_goto (tgt := 533) hx hb dL_change_529 (by decide) ?_
                  have hv9 : chg N Z v w = ((nI (N 3 - 1)), (va_up N 3 (N 3 - 1)), (sDel Z (lowN w (N 3)) (N 3 - 1))) := by rw [hg]; unfold chB; rw [if_pos (by first | assumption | omega | exact ⟨by first | assumption | omega, by first | assumption | omega⟩ | exact ⟨by first | assumption | omega, by first | assumption | omega, by first | assumption | omega⟩)]
                  exact hret _ H _ _ _ _ _ (show some (Value.int (nI (N 3 - 1))) = some (Value.int ((chg N Z v w).1)) ∧ wst G T q a (chg N Z v w).2.1 (chg N Z v w).2.2 b tx L cu er le nb nc H from ⟨by rw [hv9], by rw [hv9]; exact wst_sv hsc hP⟩) rfl hS (Nat.le_of_ble_eq_true rfl) (Nat.le_of_ble_eq_true rfl) dL_change_533
            exact L75   _ _ hP hD hS _ (lv_sub hl [1, 2, 3, 4, 5, 6, 7, 0] rfl)
          · replace c_163 := cn_eq (a := (N 1)) (b := 0) (by omega) (by omega) c_163
            refine lv_iconst (v := 0) hx hb dL_change_62 (by decide) ?_
            refine lv_goto (tgt := 75) hx hb dL_change_63 (by decide) ?_
            refine W.eq (g2 := F0 m 75 ls [.int (nI (chF N v))]) (congrArg (fun z9 => F0 m 75 ls (.int z9 :: [])) (by unfold chF; rw [if_pos c_163]; rfl)) ?_
            have L75 :  ∀ (H : Heap) (locs : List Loc), va_P G vwCl (wMain T q a N Z b M Y sc tx L cu er le nb nc) H → va_D A (wMain T q a N Z b M Y sc tx L cu er le nb nc) → va_S A H0 H locs → ∀ ls : Array Slot, lv_has ls 11 [(0, .ref (q 0)), (1, .int v), (2, .int w), (3, .int (nI (N 0))), (4, .int (nI (N 1))), (5, .int (nI (N 2))), (6, .int (nI (chU N v))), (7, .int (nI (chA N v)))] → W p l e (rmx 9 180 3) s m ([.ref (q 0), .int v, .int w] : List Value).toArray below meth c H locs 0 0 Q (F0 m 75 ls [.int (nI (chF N v))]) := by
              intro   H locs hP hD hS ls hl
              have hth := hth0.kept hS.2.1
              refine lv_istore (lv' := [(8, .int (nI (chF N v))), (0, .ref (q 0)), (1, .int v), (2, .int w), (3, .int (nI (N 0))), (4, .int (nI (N 1))), (5, .int (nI (N 2))), (6, .int (nI (chU N v))), (7, .int (nI (chA N v)))]) hx hb dL_change_75 hl (by decide) rfl (fun ls hl => ?_)
              refine lv_iload_n hx hb dL_change_77 rfl (lv_at hl 3 rfl) ?_
              refine lv_sipush (v := 200) hx hb dL_change_78 (by decide) ?_
              refine ro_S S hkx (mL_low l (v := w) (k := 200) (h0 := (by omega)) (hk := (by omega))) gL_change_L_low rfl idL_low.2 ⟨Nat.le_of_ble_eq_true rfl, Nat.le_of_ble_eq_true rfl⟩ rfl hl.1 rfl (Nat.le_of_ble_eq_true rfl) dL_change_81 ⟨Nat.le_of_ble_eq_true rfl, Nat.le_of_ble_eq_true rfl⟩ (fun r9 hr9 => ?_)
              subst hr9
              refine W.eq (g2 := F0 m 84 ls [.int (nI (lowN w 200))]) rfl ?_
              refine lv_istore (lv' := [(9, .int (nI (lowN w 200))), (8, .int (nI (chF N v))), (0, .ref (q 0)), (1, .int v), (2, .int w), (3, .int (nI (N 0))), (4, .int (nI (N 1))), (5, .int (nI (N 2))), (6, .int (nI (chU N v))), (7, .int (nI (chA N v)))]) hx hb dL_change_84 hl (by decide) rfl (fun ls hl => ?_)
              refine lv_iload_n hx hb dL_change_86 rfl (lv_at hl 3 rfl) ?_
              refine lv_bipush (v := 12) hx hb dL_change_87 (by decide) ?_
              refine ro_S S hkx (mL_low l (v := v) (k := 12) (h0 := (by omega)) (hk := (by omega))) gL_change_L_low rfl idL_low.2 ⟨Nat.le_of_ble_eq_true rfl, Nat.le_of_ble_eq_true rfl⟩ rfl hl.1 rfl (Nat.le_of_ble_eq_true rfl) dL_change_89 ⟨Nat.le_of_ble_eq_true rfl, Nat.le_of_ble_eq_true rfl⟩ (fun r9 hr9 => ?_)
              subst hr9
              refine W.eq (g2 := F0 m 92 ls [.int (nI (lowN v 12))]) rfl ?_
              obtain ⟨cz, hcz⟩ : ∃ cz, lowN v 12 = cz := ⟨_, rfl⟩
              have hcz12 : cz < 12 := hcz ▸ lowN_lt v (by decide)
              refine W.eq (g2 := F0 m 92 ls [.int (nI cz)]) (congrArg (fun z9 => F0 m 92 ls (.int z9 :: [])) (congrArg nI hcz)) ?_
              rcases (show cz = 0 ∨ cz = 1 ∨ cz = 2 ∨ cz = 3 ∨ cz = 4 ∨ cz = 5 ∨ cz = 6 ∨ cz = 7 ∨ cz = 8 ∨ cz = 9 ∨ cz = 10 ∨ cz = 11 by omega) with rfl | rfl | rfl | rfl | rfl | rfl | rfl | rfl | rfl | rfl | rfl | rfl
              · refine lv_tableIn (off := 60) (tgt := 152) hx hb dL_change_92 (by decide) (by decide) rfl (by decide) ?_
                have hg : chg N Z v w = ch0 N Z w := by unfold chg; rw [hcz]; rfl
                refine lv_iload_n hx hb dL_change_152 rfl (lv_at hl 5 rfl) ?_
                refine lv_iconst (v := 5) hx hb dL_change_153 (by decide) ?_
                refine lv_icmp_ge (tgt := 184) hx hb dL_change_154 (by decide) (fun c_190 => ?_) (fun c_190 => ?_)
                · replace c_190 := cn_le (a := 5) (b := (N 0)) (by omega) (by omega) c_190
                  refine lv_aload_n hx hb dL_change_184 rfl (lv_at hl 2 rfl) ?_
                  refine lv_iconst (v := 4) hx hb dL_change_185 (by decide) ?_
                  refine rn_V S hkx hth (nX5_value l hl0 (sa := sa) (h9 := (fun q h => hA q (Nat.le_trans hS.1 h))) (hP := hP) (hwf := hwf) (hw := (by omega)) (w := 4)) gL_change_X5_value rfl idX5_value ⟨Nat.le_of_ble_eq_true rfl, Nat.le_of_ble_eq_true rfl⟩ hP 0 rfl rfl rfl rfl hl.1 rfl (Nat.le_of_ble_eq_true rfl) dL_change_186 ⟨Nat.le_of_ble_eq_true rfl, Nat.le_of_ble_eq_true rfl⟩ (fun v9 hv9 => ?_)
                  subst hv9
                  refine W.eq (g2 := F0 m 189 ls [.int (plC Z (N 2))]) rfl ?_
                  have hv9 : chg N Z v w = ((plC Z (N 2)), N, Z) := by rw [hg]; unfold ch0; rw [if_neg (by first | assumption | omega | exact (fun q9 => by first | omega | exact absurd q9.2 (by assumption) | exact absurd q9.2.1 (by assumption) | exact absurd q9.2.2 (by assumption)))]
                  exact hret _ H _ _ _ _ _ (show some (Value.int (plC Z (N 2))) = some (Value.int ((chg N Z v w).1)) ∧ wst G T q a (chg N Z v w).2.1 (chg N Z v w).2.2 b tx L cu er le nb nc H from ⟨by rw [hv9], by rw [hv9]; exact wst_id hsc hP⟩) rfl hS (Nat.le_of_ble_eq_true rfl) (Nat.le_of_ble_eq_true rfl) dL_change_189
                · replace c_190 := cn_nle (a := 5) (b := (N 0)) (by omega) (by omega) c_190
                  refine lv_aload_n hx hb dL_change_157 rfl (lv_at hl 2 rfl) ?_
                  refine lv_iload hx hb dL_change_158 (lv_at hl 0 rfl) ?_
                  refine lv_iload hx hb dL_change_160 (lv_at hl 0 rfl) ?_
                  refine lv_iconst (v := 1) hx hb dL_change_162 (by decide) ?_
                  refine lv_iadd hx hb dL_change_163 ?_
                  refine W.eq (g2 := F0 m 164 ls [.int (nI ((lowN w 200) + 1)), .int (nI (lowN w 200)), .ref (q 0)]) (congrArg (fun z9 => F0 m 164 ls (.int z9 :: [.int (nI (lowN w 200)), .ref (q 0)])) (nI_add _ 1)) ?_
                  refine lv_iload_n hx hb dL_change_164 rfl (lv_at hl 4 rfl) ?_
                  refine lv_bipush (v := 8) hx hb dL_change_165 (by decide) ?_
                  refine lv_ishr hx hb dL_change_167 ?_
                  refine lv_sipush (v := 1000) hx hb dL_change_168 (by decide) ?_
                  refine lv_iload hx hb dL_change_171 (lv_at hl 0 rfl) ?_
                  refine lv_isub hx hb dL_change_173 ?_
                  refine W.eq (g2 := F0 m 174 ls [.int (nI (1000 - (lowN w 200))), .int (w >>> (8 &&& 31)), .int (nI ((lowN w 200) + 1)), .int (nI (lowN w 200)), .ref (q 0)]) (congrArg (fun z9 => F0 m 174 ls (.int z9 :: [.int (w >>> (8 &&& 31)), .int (nI ((lowN w 200) + 1)), .int (nI (lowN w 200)), .ref (q 0)])) (pk_sub (a := 1000) (b := (lowN w 200)) (by omega))) ?_
                  refine ro_S S hkx (mL_low l (v := (w >>> (8 &&& 31))) (k := (1000 - (lowN w 200))) (h0 := (by omega)) (hk := (by omega))) gL_change_L_low rfl idL_low.2 ⟨Nat.le_of_ble_eq_true rfl, Nat.le_of_ble_eq_true rfl⟩ rfl hl.1 rfl (Nat.le_of_ble_eq_true rfl) dL_change_174 ⟨Nat.le_of_ble_eq_true rfl, Nat.le_of_ble_eq_true rfl⟩ (fun r9 hr9 => ?_)
                  subst hr9
                  refine W.eq (g2 := F0 m 177 ls [.int (nI (lowN (w >>> (8 &&& 31)) (1000 - (lowN w 200)))), .int (nI ((lowN w 200) + 1)), .int (nI (lowN w 200)), .ref (q 0)]) rfl ?_
                  refine lv_iadd hx hb dL_change_177 ?_
                  refine W.eq (g2 := F0 m 178 ls [.int (nI (((lowN w 200) + 1) + (lowN (w >>> (8 &&& 31)) (1000 - (lowN w 200))))), .int (nI (lowN w 200)), .ref (q 0)]) (congrArg (fun z9 => F0 m 178 ls (.int z9 :: [.int (nI (lowN w 200)), .ref (q 0)])) (nI_add _ _)) ?_
                  refine wn_V S hkx hth (nX5_addVersion l hl0 (sa := sa) (A9 := A) (h9 := (fun q h => hA q (Nat.le_trans hS.1 h))) (hP := hP) (hD := hD.weaken (fun _ _ _ _ => trivial)) (hwf := hwf) (hsc := (by omega)) (hx := (by omega)) (hz1 := (by omega)) (hz := (by omega)) (h8 := (by omega)) (x := (lowN w 200)) (z := (((lowN w 200) + 1) + (lowN (w >>> (8 &&& 31)) (1000 - (lowN w 200)))))) gL_change_X5_addVersion rfl idX5_addVersion ⟨Nat.le_of_ble_eq_true rfl, Nat.le_of_ble_eq_true rfl⟩ hP 0 rfl rfl rfl rfl hl.1 rfl (Nat.le_of_ble_eq_true rfl) dL_change_178 ⟨Nat.le_of_ble_eq_true rfl, Nat.le_of_ble_eq_true rfl⟩ hS (fr_in hD (fun q h => hA q (Nat.le_trans hS.1 h))) (fun v9 H locs hp9 hz1 hk1 hS => ?_)
                  obtain ⟨rfl, hP⟩ := hp9
                  have hP : va_P G vwCl (wMain T q a (va_up N 0 (N 0 + 1)) (vAdd N Z (nI (lowN w 200)) (nI (((lowN w 200) + 1) + (lowN (w >>> (8 &&& 31)) (1000 - (lowN w 200)))))) (svB sc b) (psh sc M N) (psh sc Y Z) (svC sc) tx L cu er le nb nc) H := hP
                  have hD : va_D A (wMain T q a (va_up N 0 (N 0 + 1)) (vAdd N Z (nI (lowN w 200)) (nI (((lowN w 200) + 1) + (lowN (w >>> (8 &&& 31)) (1000 - (lowN w 200)))))) (svB sc b) (psh sc M N) (psh sc Y Z) (svC sc) tx L cu er le nb nc) := D_perm hD sv_addr
                  have hth := hth0.kept hS.2.1
                  refine W.eq (g2 := F0 m 181 ls [.int (nI (N 0))]) rfl ?_
                  refine lv_goto (tgt := 189) hx hb dL_change_181 (by decide) ?_
                  have hv9 : chg N Z v w = ((nI (N 0)), (va_up N 0 (N 0 + 1)), (vAdd N Z (nI (lowN w 200)) (nI (((lowN w 200) + 1) + (lowN (w >>> (8 &&& 31)) (1000 - (lowN w 200))))))) := by rw [hg]; unfold ch0; rw [if_pos (by first | assumption | omega | exact ⟨by first | assumption | omega, by first | assumption | omega⟩ | exact ⟨by first | assumption | omega, by first | assumption | omega, by first | assumption | omega⟩)]
                  exact hret _ H _ _ _ _ _ (show some (Value.int (nI (N 0))) = some (Value.int ((chg N Z v w).1)) ∧ wst G T q a (chg N Z v w).2.1 (chg N Z v w).2.2 b tx L cu er le nb nc H from ⟨by rw [hv9], by rw [hv9]; exact wst_sv hsc hP⟩) rfl hS (Nat.le_of_ble_eq_true rfl) (Nat.le_of_ble_eq_true rfl) dL_change_189
              · refine lv_tableIn (off := 98) (tgt := 190) hx hb dL_change_92 (by decide) (by decide) rfl (by decide) ?_
                have hg : chg N Z v w = ch1 N Z w := by unfold chg; rw [hcz]; rfl
                refine lv_iload_n hx hb dL_change_190 rfl (lv_at hl 5 rfl) ?_
                refine lv_if_le (tgt := 215) hx hb dL_change_191 (by decide) (fun c_191 => ?_) (fun c_191 => ?_)
                · replace c_191 := cn_le (a := (N 0)) (b := 0) (by omega) (by omega) c_191
                  refine lv_iload_n hx hb dL_change_215 rfl (lv_at hl 5 rfl) ?_
                  refine lv_if_ne (tgt := 230) hx hb dL_change_216 (by decide) (fun c_192 => ?_) (fun c_192 => ?_)
                  · exact absurd (show nI (N 0) = 0 by rw [show N 0 = 0 by omega]; rfl) c_192
                  · replace c_192 := cn_eq (a := (N 0)) (b := 0) (by omega) (by omega) c_192
                    refine lv_aload_n hx hb dL_change_219 rfl (lv_at hl 2 rfl) ?_
                    refine lv_iconst (v := 0) hx hb dL_change_220 (by decide) ?_
                    refine lv_sipush (v := 700) hx hb dL_change_221 (by decide) ?_
                    refine wn_V S hkx hth (nX5_addVersion l hl0 (sa := sa) (A9 := A) (h9 := (fun q h => hA q (Nat.le_trans hS.1 h))) (hP := hP) (hD := hD.weaken (fun _ _ _ _ => trivial)) (hwf := hwf) (hsc := (by omega)) (hx := (by omega)) (hz1 := (by omega)) (hz := (by omega)) (h8 := (by omega)) (x := 0) (z := 700)) gL_change_X5_addVersion rfl idX5_addVersion ⟨Nat.le_of_ble_eq_true rfl, Nat.le_of_ble_eq_true rfl⟩ hP 0 rfl rfl rfl rfl hl.1 rfl (Nat.le_of_ble_eq_true rfl) dL_change_224 ⟨Nat.le_of_ble_eq_true rfl, Nat.le_of_ble_eq_true rfl⟩ hS (fr_in hD (fun q h => hA q (Nat.le_trans hS.1 h))) (fun v9 H locs hp9 hz1 hk1 hS => ?_)
                    obtain ⟨rfl, hP⟩ := hp9
                    have hP : va_P G vwCl (wMain T q a (va_up N 0 (N 0 + 1)) (vAdd N Z (nI 0) (nI 700)) (svB sc b) (psh sc M N) (psh sc Y Z) (svC sc) tx L cu er le nb nc) H := hP
                    have hD : va_D A (wMain T q a (va_up N 0 (N 0 + 1)) (vAdd N Z (nI 0) (nI 700)) (svB sc b) (psh sc M N) (psh sc Y Z) (svC sc) tx L cu er le nb nc) := D_perm hD sv_addr
                    have hth := hth0.kept hS.2.1
                    refine W.eq (g2 := F0 m 227 ls [.int (nI (N 0))]) rfl ?_
                    refine lv_goto (tgt := 231) hx hb dL_change_227 (by decide) ?_
                    have hv9 : chg N Z v w = ((nI (N 0)), (va_up N 0 (N 0 + 1)), (vAdd N Z (nI 0) (nI 700))) := by rw [hg]; unfold ch1; rw [if_neg (by first | assumption | omega | exact (fun q9 => by first | omega | exact absurd q9.2 (by assumption) | exact absurd q9.2.1 (by assumption) | exact absurd q9.2.2 (by assumption)))]; rw [if_pos (by first | assumption | omega | exact ⟨by first | assumption | omega, by first | assumption | omega⟩ | exact ⟨by first | assumption | omega, by first | assumption | omega, by first | assumption | omega⟩)]
                    exact hret _ H _ _ _ _ _ (show some (Value.int (nI (N 0))) = some (Value.int ((chg N Z v w).1)) ∧ wst G T q a (chg N Z v w).2.1 (chg N Z v w).2.2 b tx L cu er le nb nc H from ⟨by rw [hv9], by rw [hv9]; exact wst_sv hsc hP⟩) rfl hS (Nat.le_of_ble_eq_true rfl) (Nat.le_of_ble_eq_true rfl) dL_change_231
                · replace c_191 := cn_nle (a := (N 0)) (b := 0) (by omega) (by omega) c_191
                  refine lv_iload hx hb dL_change_194 (lv_at hl 6 rfl) ?_
                  refine lv_bipush (v := 6) hx hb dL_change_196 (by decide) ?_
                  refine lv_icmp_ge (tgt := 215) hx hb dL_change_198 (by decide) (fun c_193 => ?_) (fun c_193 => ?_)
                  · replace c_193 := cn_le (a := 6) (b := (N 1)) (by omega) (by omega) c_193
                    refine lv_iload_n hx hb dL_change_215 rfl (lv_at hl 5 rfl) ?_
                    refine lv_if_ne (tgt := 230) hx hb dL_change_216 (by decide) (fun c_194 => ?_) (fun c_194 => ?_)
                    · replace c_194 := cn_ne (a := (N 0)) (b := 0) (by omega) (by omega) c_194
                      refine lv_iconst (v := 0) hx hb dL_change_230 (by decide) ?_
                      have hv9 : chg N Z v w = (0, N, Z) := by rw [hg]; unfold ch1; rw [if_neg (by first | assumption | omega | exact (fun q9 => by first | omega | exact absurd q9.2 (by assumption) | exact absurd q9.2.1 (by assumption) | exact absurd q9.2.2 (by assumption)))]; rw [if_neg (by first | assumption | omega | exact (fun q9 => by first | omega | exact absurd q9.2 (by assumption) | exact absurd q9.2.1 (by assumption) | exact absurd q9.2.2 (by assumption)))]
                      exact hret _ H _ _ _ _ _ (show some (Value.int 0) = some (Value.int ((chg N Z v w).1)) ∧ wst G T q a (chg N Z v w).2.1 (chg N Z v w).2.2 b tx L cu er le nb nc H from ⟨by rw [hv9], by rw [hv9]; exact wst_id hsc hP⟩) rfl hS (Nat.le_of_ble_eq_true rfl) (Nat.le_of_ble_eq_true rfl) dL_change_231
                    · exfalso; replace c_194 := cn_eq (a := N 0) (b := 0) (by omega) (by omega) c_194; omega
                  · replace c_193 := cn_nle (a := 6) (b := (N 1)) (by omega) (by omega) c_193
                    refine lv_aload_n hx hb dL_change_201 rfl (lv_at hl 2 rfl) ?_
                    refine lv_iload_n hx hb dL_change_202 rfl (lv_at hl 4 rfl) ?_
                    refine lv_iconst (v := 1) hx hb dL_change_203 (by decide) ?_
                    refine lv_iload_n hx hb dL_change_204 rfl (lv_at hl 5 rfl) ?_
                    refine lv_ishl hx hb dL_change_205 ?_
                    refine W.eq (g2 := F0 m 206 ls [.int (nI (2 ^ N 0)), .int w, .ref (q 0)]) (congrArg (fun z9 => F0 m 206 ls (.int z9 :: [.int w, .ref (q 0)])) (sh_1 (N 0) (by omega))) ?_
                    refine ro_S S hkx (mL_low l (v := w) (k := (2 ^ N 0)) (h0 := (Nat.pow_pos (by decide))) (hk := (Nat.pow_lt_pow_right (by decide) (by omega)))) gL_change_L_low rfl idL_low.2 ⟨Nat.le_of_ble_eq_true rfl, Nat.le_of_ble_eq_true rfl⟩ rfl hl.1 rfl (Nat.le_of_ble_eq_true rfl) dL_change_206 ⟨Nat.le_of_ble_eq_true rfl, Nat.le_of_ble_eq_true rfl⟩ (fun r9 hr9 => ?_)
                    subst hr9
                    refine W.eq (g2 := F0 m 209 ls [.int (nI (lowN w (2 ^ N 0))), .ref (q 0)]) rfl ?_
                    refine wn_V S hkx hth (nX5_addFeature l hl0 (sa := sa) (A9 := A) (h9 := (fun q h => hA q (Nat.le_trans hS.1 h))) (hP := hP) (hD := hD.weaken (fun _ _ _ _ => trivial)) (hwf := hwf) (hsc := (by omega)) (hx := (lowN_lt _ (Nat.pow_pos (by decide)))) (h8 := (by omega)) (x := (lowN w (2 ^ N 0)))) gL_change_X5_addFeature rfl idX5_addFeature ⟨Nat.le_of_ble_eq_true rfl, Nat.le_of_ble_eq_true rfl⟩ hP 0 rfl rfl rfl rfl hl.1 rfl (Nat.le_of_ble_eq_true rfl) dL_change_209 ⟨Nat.le_of_ble_eq_true rfl, Nat.le_of_ble_eq_true rfl⟩ hS (fr_in hD (fun q h => hA q (Nat.le_trans hS.1 h))) (fun v9 H locs hp9 hz1 hk1 hS => ?_)
                    obtain ⟨rfl, hP⟩ := hp9
                    have hP : va_P G vwCl (wMain T q a (va_up N 1 (N 1 + 1)) (va_up Z 4 (apF (Z 4) (nI (lowN w (2 ^ N 0))) (N 1) (N 0))) (svB sc b) (psh sc M N) (psh sc Y Z) (svC sc) tx L cu er le nb nc) H := hP
                    have hD : va_D A (wMain T q a (va_up N 1 (N 1 + 1)) (va_up Z 4 (apF (Z 4) (nI (lowN w (2 ^ N 0))) (N 1) (N 0))) (svB sc b) (psh sc M N) (psh sc Y Z) (svC sc) tx L cu er le nb nc) := D_perm hD sv_addr
                    have hth := hth0.kept hS.2.1
                    refine W.eq (g2 := F0 m 212 ls [.int (nI (N 1))]) rfl ?_
                    refine lv_goto (tgt := 231) hx hb dL_change_212 (by decide) ?_
                    have hv9 : chg N Z v w = ((nI (N 1)), (va_up N 1 (N 1 + 1)), (va_up Z 4 (apF (Z 4) (nI (lowN w (2 ^ N 0))) (N 1) (N 0)))) := by rw [hg]; unfold ch1; rw [if_pos (by first | assumption | omega | exact ⟨by first | assumption | omega, by first | assumption | omega⟩ | exact ⟨by first | assumption | omega, by first | assumption | omega, by first | assumption | omega⟩)]
                    exact hret _ H _ _ _ _ _ (show some (Value.int (nI (N 1))) = some (Value.int ((chg N Z v w).1)) ∧ wst G T q a (chg N Z v w).2.1 (chg N Z v w).2.2 b tx L cu er le nb nc H from ⟨by rw [hv9], by rw [hv9]; exact wst_sv hsc hP⟩) rfl hS (Nat.le_of_ble_eq_true rfl) (Nat.le_of_ble_eq_true rfl) dL_change_231
              · refine lv_tableIn (off := 140) (tgt := 232) hx hb dL_change_92 (by decide) (by decide) rfl (by decide) ?_
                have hg : chg N Z v w = ch2 N Z v := by unfold chg; rw [hcz]; rfl
                refine lv_iload_n hx hb dL_change_232 rfl (lv_at hl 5 rfl) ?_
                refine lv_if_le (tgt := 272) hx hb dL_change_233 (by decide) (fun c_195 => ?_) (fun c_195 => ?_)
                · replace c_195 := cn_le (a := (N 0)) (b := 0) (by omega) (by omega) c_195
                  refine lv_iconst (v := 0) hx hb dL_change_272 (by decide) ?_
                  have hv9 : chg N Z v w = (0, N, Z) := by rw [hg]; unfold ch2; rw [if_neg (by first | assumption | omega | exact (fun q9 => by first | omega | exact absurd q9.2 (by assumption) | exact absurd q9.2.1 (by assumption) | exact absurd q9.2.2 (by assumption)))]
                  exact hret _ H _ _ _ _ _ (show some (Value.int 0) = some (Value.int ((chg N Z v w).1)) ∧ wst G T q a (chg N Z v w).2.1 (chg N Z v w).2.2 b tx L cu er le nb nc H from ⟨by rw [hv9], by rw [hv9]; exact wst_id hsc hP⟩) rfl hS (Nat.le_of_ble_eq_true rfl) (Nat.le_of_ble_eq_true rfl) dL_change_273
                · replace c_195 := cn_nle (a := (N 0)) (b := 0) (by omega) (by omega) c_195
                  refine lv_iload hx hb dL_change_236 (lv_at hl 6 rfl) ?_
                  refine lv_if_le (tgt := 272) hx hb dL_change_238 (by decide) (fun c_196 => ?_) (fun c_196 => ?_)
                  · replace c_196 := cn_le (a := (N 1)) (b := 0) (by omega) (by omega) c_196
                    refine lv_iconst (v := 0) hx hb dL_change_272 (by decide) ?_
                    have hv9 : chg N Z v w = (0, N, Z) := by rw [hg]; unfold ch2; rw [if_neg (by first | assumption | omega | exact (fun q9 => by first | omega | exact absurd q9.2 (by assumption) | exact absurd q9.2.1 (by assumption) | exact absurd q9.2.2 (by assumption)))]
                    exact hret _ H _ _ _ _ _ (show some (Value.int 0) = some (Value.int ((chg N Z v w).1)) ∧ wst G T q a (chg N Z v w).2.1 (chg N Z v w).2.2 b tx L cu er le nb nc H from ⟨by rw [hv9], by rw [hv9]; exact wst_id hsc hP⟩) rfl hS (Nat.le_of_ble_eq_true rfl) (Nat.le_of_ble_eq_true rfl) dL_change_273
                  · replace c_196 := cn_nle (a := (N 1)) (b := 0) (by omega) (by omega) c_196
                    refine lv_aload_n hx hb dL_change_241 rfl (lv_at hl 2 rfl) ?_
                    refine lv_iload hx hb dL_change_242 (lv_at hl 1 rfl) ?_
                    refine lv_iload hx hb dL_change_244 (lv_at hl 9 rfl) ?_
                    refine lv_aload_n hx hb dL_change_246 rfl (lv_at hl 2 rfl) ?_
                    refine lv_iload hx hb dL_change_247 (lv_at hl 9 rfl) ?_
                    refine lv_iconst (v := 2) hx hb dL_change_249 (by decide) ?_
                    refine rn_V S hkx hth (nX5_version l hl0 (sa := sa) (h9 := (fun q h => hA q (Nat.le_trans hS.1 h))) (hP := hP) (hwf := hwf) (hv := (chA_lt (by omega))) (hw := (by omega)) (v := (chA N v)) (w := 2)) gL_change_X5_version rfl idX5_version ⟨Nat.le_of_ble_eq_true rfl, Nat.le_of_ble_eq_true rfl⟩ hP 0 rfl rfl rfl rfl hl.1 rfl (Nat.le_of_ble_eq_true rfl) dL_change_250 ⟨Nat.le_of_ble_eq_true rfl, Nat.le_of_ble_eq_true rfl⟩ (fun v9 hv9 => ?_)
                    subst hv9
                    refine W.eq (g2 := F0 m 253 ls [.int (Z 4 (chA N v)), .int (nI (chA N v)), .int (nI (chF N v)), .ref (q 0)]) rfl ?_
                    refine lv_iload hx hb dL_change_253 (lv_at hl 1 rfl) ?_
                    refine lv_ishr hx hb dL_change_255 ?_
                    refine lv_iconst (v := 1) hx hb dL_change_256 (by decide) ?_
                    refine lv_iand hx hb dL_change_257 ?_
                    refine W.eq (g2 := F0 m 258 ls [.int (bI (cnt1 (Z 4 (chA N v)) (nI (chF N v)))), .int (nI (chA N v)), .int (nI (chF N v)), .ref (q 0)]) (congrArg (fun z9 => F0 m 258 ls (.int z9 :: [.int (nI (chA N v)), .int (nI (chF N v)), .ref (q 0)])) (and_cn (Nat.lt_of_lt_of_le (chF_lt (by omega)) (by omega)))) ?_
                    refine lv_if_ne (tgt := 265) hx hb dL_change_258 (by decide) (fun c_197 => ?_) (fun c_197 => ?_)
                    · replace c_197 := bI_n0 c_197
                      refine lv_iconst (v := 0) hx hb dL_change_265 (by decide) ?_
                      refine W.eq (g2 := F0 m 266 ls [.int (bI false), .int (nI (chA N v)), .int (nI (chF N v)), .ref (q 0)]) (congrArg (fun z9 => F0 m 266 ls (.int z9 :: [.int (nI (chA N v)), .int (nI (chF N v)), .ref (q 0)])) (rfl)) ?_
                      refine wn_V S hkx hth (nX5_put l hl0 (sa := sa) (A9 := A) (h9 := (fun q h => hA q (Nat.le_trans hS.1 h))) (hP := hP) (hD := hD.weaken (fun _ _ _ _ => trivial)) (hwf := hwf) (hsc := (by omega)) (hf := (chF_lt (by omega))) (hv := (chA_lt (by omega))) (h8 := (by first | (rw [show cnt1 (Z 4 (chA N v)) (nI (chF N v)) = true by assumption]; decide) | (rw [show cnt1 (Z 4 (chA N v)) (nI (chF N v)) = false by assumption]; decide))) (f := (chF N v)) (v := (chA N v)) (h := false)) gL_change_X5_put rfl idX5_put ⟨Nat.le_of_ble_eq_true rfl, Nat.le_of_ble_eq_true rfl⟩ hP 0 rfl rfl rfl rfl hl.1 rfl (Nat.le_of_ble_eq_true rfl) dL_change_266 ⟨Nat.le_of_ble_eq_true rfl, Nat.le_of_ble_eq_true rfl⟩ hS (fr_in hD (fun q h => hA q (Nat.le_trans hS.1 h))) (fun v9 H locs hp9 hz1 hk1 hS => ?_)
                      obtain ⟨rfl, hP⟩ := hp9
                      have hP : va_P G vwCl (wMain T q a N (va_up Z 4 (upd (Z 4) (chA N v) (Z 4 (chA N v) ^^^ ((1 : Int32) <<< (nI (chF N v) &&& 31))))) (svB sc b) (psh sc M N) (psh sc Y Z) (svC sc) tx L cu er le nb nc) H := hP
                      have hD : va_D A (wMain T q a N (va_up Z 4 (upd (Z 4) (chA N v) (Z 4 (chA N v) ^^^ ((1 : Int32) <<< (nI (chF N v) &&& 31))))) (svB sc b) (psh sc M N) (psh sc Y Z) (svC sc) tx L cu er le nb nc) := D_perm hD sv_addr
                      have hth := hth0.kept hS.2.1
                      refine W.eq (g2 := F0 m 269 ls [.int (allW (va_up Z 4 (upd (Z 4) (chA N v) (Z 4 (chA N v) ^^^ ((1 : Int32) <<< (nI (chF N v) &&& 31))))) (nI (chF N v)) (N 0))]) rfl ?_
                      refine lv_goto (tgt := 273) hx hb dL_change_269 (by decide) ?_
                      have hv9 : chg N Z v w = ((allW (va_up Z 4 (upd (Z 4) (chA N v) (Z 4 (chA N v) ^^^ ((1 : Int32) <<< (nI (chF N v) &&& 31))))) (nI (chF N v)) (N 0)), N, (va_up Z 4 (upd (Z 4) (chA N v) (Z 4 (chA N v) ^^^ ((1 : Int32) <<< (nI (chF N v) &&& 31)))))) := by rw [hg]; unfold ch2; rw [if_pos (by first | assumption | omega | exact ⟨by first | assumption | omega, by first | assumption | omega⟩ | exact ⟨by first | assumption | omega, by first | assumption | omega, by first | assumption | omega⟩)]
                      exact hret _ H _ _ _ _ _ (show some (Value.int (allW (va_up Z 4 (upd (Z 4) (chA N v) (Z 4 (chA N v) ^^^ ((1 : Int32) <<< (nI (chF N v) &&& 31))))) (nI (chF N v)) (N 0))) = some (Value.int ((chg N Z v w).1)) ∧ wst G T q a (chg N Z v w).2.1 (chg N Z v w).2.2 b tx L cu er le nb nc H from ⟨by rw [hv9], by rw [hv9]; exact wst_sv hsc hP⟩) rfl hS (Nat.le_of_ble_eq_true rfl) (Nat.le_of_ble_eq_true rfl) dL_change_273
                    · replace c_197 := bI_e0 c_197
                      refine lv_iconst (v := 1) hx hb dL_change_261 (by decide) ?_
                      refine lv_goto (tgt := 266) hx hb dL_change_262 (by decide) ?_
                      refine W.eq (g2 := F0 m 266 ls [.int (bI true), .int (nI (chA N v)), .int (nI (chF N v)), .ref (q 0)]) (congrArg (fun z9 => F0 m 266 ls (.int z9 :: [.int (nI (chA N v)), .int (nI (chF N v)), .ref (q 0)])) (rfl)) ?_
                      refine wn_V S hkx hth (nX5_put l hl0 (sa := sa) (A9 := A) (h9 := (fun q h => hA q (Nat.le_trans hS.1 h))) (hP := hP) (hD := hD.weaken (fun _ _ _ _ => trivial)) (hwf := hwf) (hsc := (by omega)) (hf := (chF_lt (by omega))) (hv := (chA_lt (by omega))) (h8 := (by first | (rw [show cnt1 (Z 4 (chA N v)) (nI (chF N v)) = true by assumption]; decide) | (rw [show cnt1 (Z 4 (chA N v)) (nI (chF N v)) = false by assumption]; decide))) (f := (chF N v)) (v := (chA N v)) (h := true)) gL_change_X5_put rfl idX5_put ⟨Nat.le_of_ble_eq_true rfl, Nat.le_of_ble_eq_true rfl⟩ hP 0 rfl rfl rfl rfl hl.1 rfl (Nat.le_of_ble_eq_true rfl) dL_change_266 ⟨Nat.le_of_ble_eq_true rfl, Nat.le_of_ble_eq_true rfl⟩ hS (fr_in hD (fun q h => hA q (Nat.le_trans hS.1 h))) (fun v9 H locs hp9 hz1 hk1 hS => ?_)
                      obtain ⟨rfl, hP⟩ := hp9
                      have hP : va_P G vwCl (wMain T q a N (va_up Z 4 (upd (Z 4) (chA N v) (Z 4 (chA N v) ^^^ ((1 : Int32) <<< (nI (chF N v) &&& 31))))) (svB sc b) (psh sc M N) (psh sc Y Z) (svC sc) tx L cu er le nb nc) H := hP
                      have hD : va_D A (wMain T q a N (va_up Z 4 (upd (Z 4) (chA N v) (Z 4 (chA N v) ^^^ ((1 : Int32) <<< (nI (chF N v) &&& 31))))) (svB sc b) (psh sc M N) (psh sc Y Z) (svC sc) tx L cu er le nb nc) := D_perm hD sv_addr
                      have hth := hth0.kept hS.2.1
                      refine W.eq (g2 := F0 m 269 ls [.int (allW (va_up Z 4 (upd (Z 4) (chA N v) (Z 4 (chA N v) ^^^ ((1 : Int32) <<< (nI (chF N v) &&& 31))))) (nI (chF N v)) (N 0))]) rfl ?_
                      refine lv_goto (tgt := 273) hx hb dL_change_269 (by decide) ?_
                      have hv9 : chg N Z v w = ((allW (va_up Z 4 (upd (Z 4) (chA N v) (Z 4 (chA N v) ^^^ ((1 : Int32) <<< (nI (chF N v) &&& 31))))) (nI (chF N v)) (N 0)), N, (va_up Z 4 (upd (Z 4) (chA N v) (Z 4 (chA N v) ^^^ ((1 : Int32) <<< (nI (chF N v) &&& 31)))))) := by rw [hg]; unfold ch2; rw [if_pos (by first | assumption | omega | exact ⟨by first | assumption | omega, by first | assumption | omega⟩ | exact ⟨by first | assumption | omega, by first | assumption | omega, by first | assumption | omega⟩)]
                      exact hret _ H _ _ _ _ _ (show some (Value.int (allW (va_up Z 4 (upd (Z 4) (chA N v) (Z 4 (chA N v) ^^^ ((1 : Int32) <<< (nI (chF N v) &&& 31))))) (nI (chF N v)) (N 0))) = some (Value.int ((chg N Z v w).1)) ∧ wst G T q a (chg N Z v w).2.1 (chg N Z v w).2.2 b tx L cu er le nb nc H from ⟨by rw [hv9], by rw [hv9]; exact wst_sv hsc hP⟩) rfl hS (Nat.le_of_ble_eq_true rfl) (Nat.le_of_ble_eq_true rfl) dL_change_273
              · refine lv_tableIn (off := 182) (tgt := 274) hx hb dL_change_92 (by decide) (by decide) rfl (by decide) ?_
                have hg : chg N Z v w = ch3 N Z v w := by unfold chg; rw [hcz]; rfl
                refine lv_iload_n hx hb dL_change_274 rfl (lv_at hl 5 rfl) ?_
                refine lv_if_le (tgt := 303) hx hb dL_change_275 (by decide) (fun c_198 => ?_) (fun c_198 => ?_)
                · replace c_198 := cn_le (a := (N 0)) (b := 0) (by omega) (by omega) c_198
                  refine lv_iconst (v := 0) hx hb dL_change_303 (by decide) ?_
                  have hv9 : chg N Z v w = (0, N, Z) := by rw [hg]; unfold ch3; rw [if_neg (by first | assumption | omega | exact (fun q9 => by first | omega | exact absurd q9.2 (by assumption) | exact absurd q9.2.1 (by assumption) | exact absurd q9.2.2 (by assumption)))]
                  exact hret _ H _ _ _ _ _ (show some (Value.int 0) = some (Value.int ((chg N Z v w).1)) ∧ wst G T q a (chg N Z v w).2.1 (chg N Z v w).2.2 b tx L cu er le nb nc H from ⟨by rw [hv9], by rw [hv9]; exact wst_id hsc hP⟩) rfl hS (Nat.le_of_ble_eq_true rfl) (Nat.le_of_ble_eq_true rfl) dL_change_304
                · replace c_198 := cn_nle (a := (N 0)) (b := 0) (by omega) (by omega) c_198
                  refine lv_iload hx hb dL_change_278 (lv_at hl 7 rfl) ?_
                  refine lv_iconst (v := 5) hx hb dL_change_280 (by decide) ?_
                  refine lv_icmp_ge (tgt := 303) hx hb dL_change_281 (by decide) (fun c_199 => ?_) (fun c_199 => ?_)
                  · replace c_199 := cn_le (a := 5) (b := (N 2)) (by omega) (by omega) c_199
                    refine lv_iconst (v := 0) hx hb dL_change_303 (by decide) ?_
                    have hv9 : chg N Z v w = (0, N, Z) := by rw [hg]; unfold ch3; rw [if_neg (by first | assumption | omega | exact (fun q9 => by first | omega | exact absurd q9.2 (by assumption) | exact absurd q9.2.1 (by assumption) | exact absurd q9.2.2 (by assumption)))]
                    exact hret _ H _ _ _ _ _ (show some (Value.int 0) = some (Value.int ((chg N Z v w).1)) ∧ wst G T q a (chg N Z v w).2.1 (chg N Z v w).2.2 b tx L cu er le nb nc H from ⟨by rw [hv9], by rw [hv9]; exact wst_id hsc hP⟩) rfl hS (Nat.le_of_ble_eq_true rfl) (Nat.le_of_ble_eq_true rfl) dL_change_304
                  · replace c_199 := cn_nle (a := 5) (b := (N 2)) (by omega) (by omega) c_199
                    refine lv_aload_n hx hb dL_change_284 rfl (lv_at hl 2 rfl) ?_
                    refine lv_iload hx hb dL_change_285 (lv_at hl 9 rfl) ?_
                    refine lv_iload_n hx hb dL_change_287 rfl (lv_at hl 4 rfl) ?_
                    refine lv_iconst (v := 3) hx hb dL_change_288 (by decide) ?_
                    refine lv_ishr hx hb dL_change_289 ?_
                    refine lv_iconst (v := 1) hx hb dL_change_290 (by decide) ?_
                    refine lv_iload hx hb dL_change_291 (lv_at hl 6 rfl) ?_
                    refine lv_ishl hx hb dL_change_293 ?_
                    refine W.eq (g2 := F0 m 294 ls [.int (nI (2 ^ N 1)), .int (w >>> (3 &&& 31)), .int (nI (chA N v)), .ref (q 0)]) (congrArg (fun z9 => F0 m 294 ls (.int z9 :: [.int (w >>> (3 &&& 31)), .int (nI (chA N v)), .ref (q 0)])) (sh_1 (N 1) (by omega))) ?_
                    refine ro_S S hkx (mL_low l (v := (w >>> (3 &&& 31))) (k := (2 ^ N 1)) (h0 := (Nat.pow_pos (by decide))) (hk := (Nat.pow_lt_pow_right (by decide) (by omega)))) gL_change_L_low rfl idL_low.2 ⟨Nat.le_of_ble_eq_true rfl, Nat.le_of_ble_eq_true rfl⟩ rfl hl.1 rfl (Nat.le_of_ble_eq_true rfl) dL_change_294 ⟨Nat.le_of_ble_eq_true rfl, Nat.le_of_ble_eq_true rfl⟩ (fun r9 hr9 => ?_)
                    subst hr9
                    refine W.eq (g2 := F0 m 297 ls [.int (nI (lowN (w >>> (3 &&& 31)) (2 ^ N 1))), .int (nI (chA N v)), .ref (q 0)]) rfl ?_
                    refine wn_V S hkx hth (nX5_addUser l hl0 (sa := sa) (A9 := A) (h9 := (fun q h => hA q (Nat.le_trans hS.1 h))) (hP := hP) (hD := hD.weaken (fun _ _ _ _ => trivial)) (hwf := hwf) (hsc := (by omega)) (hv := (chA_lt (by omega))) (hx := (lowN_lt _ (Nat.pow_pos (by decide)))) (h8 := (by omega)) (v := (chA N v)) (x := (lowN (w >>> (3 &&& 31)) (2 ^ N 1)))) gL_change_X5_addUser rfl idX5_addUser ⟨Nat.le_of_ble_eq_true rfl, Nat.le_of_ble_eq_true rfl⟩ hP 0 rfl rfl rfl rfl hl.1 rfl (Nat.le_of_ble_eq_true rfl) dL_change_297 ⟨Nat.le_of_ble_eq_true rfl, Nat.le_of_ble_eq_true rfl⟩ hS (fr_in hD (fun q h => hA q (Nat.le_trans hS.1 h))) (fun v9 H locs hp9 hz1 hk1 hS => ?_)
                    obtain ⟨rfl, hP⟩ := hp9
                    have hP : va_P G vwCl (wMain T q a (va_up N 2 (N 2 + 1)) (uAdd N Z (nI (chA N v)) (nI (lowN (w >>> (3 &&& 31)) (2 ^ N 1)))) (svB sc b) (psh sc M N) (psh sc Y Z) (svC sc) tx L cu er le nb nc) H := hP
                    have hD : va_D A (wMain T q a (va_up N 2 (N 2 + 1)) (uAdd N Z (nI (chA N v)) (nI (lowN (w >>> (3 &&& 31)) (2 ^ N 1)))) (svB sc b) (psh sc M N) (psh sc Y Z) (svC sc) tx L cu er le nb nc) := D_perm hD sv_addr
                    have hth := hth0.kept hS.2.1
                    refine W.eq (g2 := F0 m 300 ls [.int (nI (N 2))]) rfl ?_
                    refine lv_goto (tgt := 304) hx hb dL_change_300 (by decide) ?_
                    have hv9 : chg N Z v w = ((nI (N 2)), (va_up N 2 (N 2 + 1)), (uAdd N Z (nI (chA N v)) (nI (lowN (w >>> (3 &&& 31)) (2 ^ N 1))))) := by rw [hg]; unfold ch3; rw [if_pos (by first | assumption | omega | exact ⟨by first | assumption | omega, by first | assumption | omega⟩ | exact ⟨by first | assumption | omega, by first | assumption | omega, by first | assumption | omega⟩)]
                    exact hret _ H _ _ _ _ _ (show some (Value.int (nI (N 2))) = some (Value.int ((chg N Z v w).1)) ∧ wst G T q a (chg N Z v w).2.1 (chg N Z v w).2.2 b tx L cu er le nb nc H from ⟨by rw [hv9], by rw [hv9]; exact wst_sv hsc hP⟩) rfl hS (Nat.le_of_ble_eq_true rfl) (Nat.le_of_ble_eq_true rfl) dL_change_304
              · refine lv_tableIn (off := 213) (tgt := 305) hx hb dL_change_92 (by decide) (by decide) rfl (by decide) ?_
                have hg : chg N Z v w = ch4 N Z v w := by unfold chg; rw [hcz]; rfl
                refine lv_iload hx hb dL_change_305 (lv_at hl 7 rfl) ?_
                refine lv_if_le (tgt := 328) hx hb dL_change_307 (by decide) (fun c_200 => ?_) (fun c_200 => ?_)
                · replace c_200 := cn_le (a := (N 2)) (b := 0) (by omega) (by omega) c_200
                  refine lv_iconst (v := 0) hx hb dL_change_328 (by decide) ?_
                  have hv9 : chg N Z v w = (0, N, Z) := by rw [hg]; unfold ch4; rw [if_neg (by first | assumption | omega | exact (fun q9 => by first | omega | exact absurd q9.2 (by assumption) | exact absurd q9.2.1 (by assumption) | exact absurd q9.2.2 (by assumption)))]
                  exact hret _ H _ _ _ _ _ (show some (Value.int 0) = some (Value.int ((chg N Z v w).1)) ∧ wst G T q a (chg N Z v w).2.1 (chg N Z v w).2.2 b tx L cu er le nb nc H from ⟨by rw [hv9], by rw [hv9]; exact wst_id hsc hP⟩) rfl hS (Nat.le_of_ble_eq_true rfl) (Nat.le_of_ble_eq_true rfl) dL_change_329
                · replace c_200 := cn_nle (a := (N 2)) (b := 0) (by omega) (by omega) c_200
                  refine lv_aload_n hx hb dL_change_310 rfl (lv_at hl 2 rfl) ?_
                  refine lv_iload hx hb dL_change_311 (lv_at hl 8 rfl) ?_
                  refine lv_iload hx hb dL_change_313 (lv_at hl 9 rfl) ?_
                  refine lv_iload_n hx hb dL_change_315 rfl (lv_at hl 4 rfl) ?_
                  refine lv_sipush (v := 1000) hx hb dL_change_316 (by decide) ?_
                  refine ro_S S hkx (mL_low l (v := w) (k := 1000) (h0 := (by omega)) (hk := (by omega))) gL_change_L_low rfl idL_low.2 ⟨Nat.le_of_ble_eq_true rfl, Nat.le_of_ble_eq_true rfl⟩ rfl hl.1 rfl (Nat.le_of_ble_eq_true rfl) dL_change_319 ⟨Nat.le_of_ble_eq_true rfl, Nat.le_of_ble_eq_true rfl⟩ (fun r9 hr9 => ?_)
                  subst hr9
                  refine W.eq (g2 := F0 m 322 ls [.int (nI (lowN w 1000)), .int (nI (chA N v)), .int (nI (chU N v)), .ref (q 0)]) rfl ?_
                  refine wn_V S hkx hth (nX5_pledge l hl0 (sa := sa) (A9 := A) (h9 := (fun q h => hA q (Nat.le_trans hS.1 h))) (hP := hP) (hD := hD.weaken (fun _ _ _ _ => trivial)) (hwf := hwf) (hsc := (by omega)) (hu := (chU_lt (by omega))) (hv := (chA_lt (u_v hwf (by omega)))) (hd := (by omega)) (u := (chU N v)) (v := (chA N v)) (d := (lowN w 1000))) gL_change_X5_pledge rfl idX5_pledge ⟨Nat.le_of_ble_eq_true rfl, Nat.le_of_ble_eq_true rfl⟩ hP 0 rfl rfl rfl rfl hl.1 rfl (Nat.le_of_ble_eq_true rfl) dL_change_322 ⟨Nat.le_of_ble_eq_true rfl, Nat.le_of_ble_eq_true rfl⟩ hS (fr_in hD (fun q h => hA q (Nat.le_trans hS.1 h))) (fun v9 H locs hp9 hz1 hk1 hS => ?_)
                  obtain ⟨rfl, hP⟩ := hp9
                  have hP : va_P G vwCl (wMain T q a N (uPl Z (chU N v) (nI (chA N v)) (nI (lowN w 1000))) (svB sc b) (psh sc M N) (psh sc Y Z) (svC sc) tx L cu er le nb nc) H := hP
                  have hD : va_D A (wMain T q a N (uPl Z (chU N v) (nI (chA N v)) (nI (lowN w 1000))) (svB sc b) (psh sc M N) (psh sc Y Z) (svC sc) tx L cu er le nb nc) := D_perm hD sv_addr
                  have hth := hth0.kept hS.2.1
                  refine W.eq (g2 := F0 m 325 ls [.int (Z 8 (chU N v))]) rfl ?_
                  refine lv_goto (tgt := 329) hx hb dL_change_325 (by decide) ?_
                  have hv9 : chg N Z v w = ((Z 8 (chU N v)), N, (uPl Z (chU N v) (nI (chA N v)) (nI (lowN w 1000)))) := by rw [hg]; unfold ch4; rw [if_pos (by first | assumption | omega | exact ⟨by first | assumption | omega, by first | assumption | omega⟩ | exact ⟨by first | assumption | omega, by first | assumption | omega, by first | assumption | omega⟩)]
                  exact hret _ H _ _ _ _ _ (show some (Value.int (Z 8 (chU N v))) = some (Value.int ((chg N Z v w).1)) ∧ wst G T q a (chg N Z v w).2.1 (chg N Z v w).2.2 b tx L cu er le nb nc H from ⟨by rw [hv9], by rw [hv9]; exact wst_sv hsc hP⟩) rfl hS (Nat.le_of_ble_eq_true rfl) (Nat.le_of_ble_eq_true rfl) dL_change_329
              · refine lv_tableIn (off := 213) (tgt := 305) hx hb dL_change_92 (by decide) (by decide) rfl (by decide) ?_
                have hg : chg N Z v w = ch4 N Z v w := by unfold chg; rw [hcz]; rfl
                refine lv_iload hx hb dL_change_305 (lv_at hl 7 rfl) ?_
                refine lv_if_le (tgt := 328) hx hb dL_change_307 (by decide) (fun c_201 => ?_) (fun c_201 => ?_)
                · replace c_201 := cn_le (a := (N 2)) (b := 0) (by omega) (by omega) c_201
                  refine lv_iconst (v := 0) hx hb dL_change_328 (by decide) ?_
                  have hv9 : chg N Z v w = (0, N, Z) := by rw [hg]; unfold ch4; rw [if_neg (by first | assumption | omega | exact (fun q9 => by first | omega | exact absurd q9.2 (by assumption) | exact absurd q9.2.1 (by assumption) | exact absurd q9.2.2 (by assumption)))]
                  exact hret _ H _ _ _ _ _ (show some (Value.int 0) = some (Value.int ((chg N Z v w).1)) ∧ wst G T q a (chg N Z v w).2.1 (chg N Z v w).2.2 b tx L cu er le nb nc H from ⟨by rw [hv9], by rw [hv9]; exact wst_id hsc hP⟩) rfl hS (Nat.le_of_ble_eq_true rfl) (Nat.le_of_ble_eq_true rfl) dL_change_329
                · replace c_201 := cn_nle (a := (N 2)) (b := 0) (by omega) (by omega) c_201
                  refine lv_aload_n hx hb dL_change_310 rfl (lv_at hl 2 rfl) ?_
                  refine lv_iload hx hb dL_change_311 (lv_at hl 8 rfl) ?_
                  refine lv_iload hx hb dL_change_313 (lv_at hl 9 rfl) ?_
                  refine lv_iload_n hx hb dL_change_315 rfl (lv_at hl 4 rfl) ?_
                  refine lv_sipush (v := 1000) hx hb dL_change_316 (by decide) ?_
                  refine ro_S S hkx (mL_low l (v := w) (k := 1000) (h0 := (by omega)) (hk := (by omega))) gL_change_L_low rfl idL_low.2 ⟨Nat.le_of_ble_eq_true rfl, Nat.le_of_ble_eq_true rfl⟩ rfl hl.1 rfl (Nat.le_of_ble_eq_true rfl) dL_change_319 ⟨Nat.le_of_ble_eq_true rfl, Nat.le_of_ble_eq_true rfl⟩ (fun r9 hr9 => ?_)
                  subst hr9
                  refine W.eq (g2 := F0 m 322 ls [.int (nI (lowN w 1000)), .int (nI (chA N v)), .int (nI (chU N v)), .ref (q 0)]) rfl ?_
                  refine wn_V S hkx hth (nX5_pledge l hl0 (sa := sa) (A9 := A) (h9 := (fun q h => hA q (Nat.le_trans hS.1 h))) (hP := hP) (hD := hD.weaken (fun _ _ _ _ => trivial)) (hwf := hwf) (hsc := (by omega)) (hu := (chU_lt (by omega))) (hv := (chA_lt (u_v hwf (by omega)))) (hd := (by omega)) (u := (chU N v)) (v := (chA N v)) (d := (lowN w 1000))) gL_change_X5_pledge rfl idX5_pledge ⟨Nat.le_of_ble_eq_true rfl, Nat.le_of_ble_eq_true rfl⟩ hP 0 rfl rfl rfl rfl hl.1 rfl (Nat.le_of_ble_eq_true rfl) dL_change_322 ⟨Nat.le_of_ble_eq_true rfl, Nat.le_of_ble_eq_true rfl⟩ hS (fr_in hD (fun q h => hA q (Nat.le_trans hS.1 h))) (fun v9 H locs hp9 hz1 hk1 hS => ?_)
                  obtain ⟨rfl, hP⟩ := hp9
                  have hP : va_P G vwCl (wMain T q a N (uPl Z (chU N v) (nI (chA N v)) (nI (lowN w 1000))) (svB sc b) (psh sc M N) (psh sc Y Z) (svC sc) tx L cu er le nb nc) H := hP
                  have hD : va_D A (wMain T q a N (uPl Z (chU N v) (nI (chA N v)) (nI (lowN w 1000))) (svB sc b) (psh sc M N) (psh sc Y Z) (svC sc) tx L cu er le nb nc) := D_perm hD sv_addr
                  have hth := hth0.kept hS.2.1
                  refine W.eq (g2 := F0 m 325 ls [.int (Z 8 (chU N v))]) rfl ?_
                  refine lv_goto (tgt := 329) hx hb dL_change_325 (by decide) ?_
                  have hv9 : chg N Z v w = ((Z 8 (chU N v)), N, (uPl Z (chU N v) (nI (chA N v)) (nI (lowN w 1000)))) := by rw [hg]; unfold ch4; rw [if_pos (by first | assumption | omega | exact ⟨by first | assumption | omega, by first | assumption | omega⟩ | exact ⟨by first | assumption | omega, by first | assumption | omega, by first | assumption | omega⟩)]
                  exact hret _ H _ _ _ _ _ (show some (Value.int (Z 8 (chU N v))) = some (Value.int ((chg N Z v w).1)) ∧ wst G T q a (chg N Z v w).2.1 (chg N Z v w).2.2 b tx L cu er le nb nc H from ⟨by rw [hv9], by rw [hv9]; exact wst_sv hsc hP⟩) rfl hS (Nat.le_of_ble_eq_true rfl) (Nat.le_of_ble_eq_true rfl) dL_change_329
              · refine lv_tableIn (off := 238) (tgt := 330) hx hb dL_change_92 (by decide) (by decide) rfl (by decide) ?_
                have hg : chg N Z v w = ch6 N Z v := by unfold chg; rw [hcz]; rfl
                refine lv_iload hx hb dL_change_330 (lv_at hl 7 rfl) ?_
                refine lv_if_le (tgt := 354) hx hb dL_change_332 (by decide) (fun c_202 => ?_) (fun c_202 => ?_)
                · replace c_202 := cn_le (a := (N 2)) (b := 0) (by omega) (by omega) c_202
                  refine lv_iconst (v := 0) hx hb dL_change_354 (by decide) ?_
                  have hv9 : chg N Z v w = (0, N, Z) := by rw [hg]; unfold ch6; rw [if_neg (by first | assumption | omega | exact (fun q9 => by first | omega | exact absurd q9.2 (by assumption) | exact absurd q9.2.1 (by assumption) | exact absurd q9.2.2 (by assumption)))]
                  exact hret _ H _ _ _ _ _ (show some (Value.int 0) = some (Value.int ((chg N Z v w).1)) ∧ wst G T q a (chg N Z v w).2.1 (chg N Z v w).2.2 b tx L cu er le nb nc H from ⟨by rw [hv9], by rw [hv9]; exact wst_id hsc hP⟩) rfl hS (Nat.le_of_ble_eq_true rfl) (Nat.le_of_ble_eq_true rfl) dL_change_355
                · replace c_202 := cn_nle (a := (N 2)) (b := 0) (by omega) (by omega) c_202
                  refine lv_aload_n hx hb dL_change_335 rfl (lv_at hl 2 rfl) ?_
                  refine lv_iload hx hb dL_change_336 (lv_at hl 8 rfl) ?_
                  refine lv_iconst (v := 2) hx hb dL_change_338 (by decide) ?_
                  refine rn_V S hkx hth (nX5_user l hl0 (sa := sa) (h9 := (fun q h => hA q (Nat.le_trans hS.1 h))) (hP := hP) (hwf := hwf) (hu := (chU_lt (by omega))) (hw := (by omega)) (u := (chU N v)) (w := 2)) gL_change_X5_user rfl idX5_user ⟨Nat.le_of_ble_eq_true rfl, Nat.le_of_ble_eq_true rfl⟩ hP 0 rfl rfl rfl rfl hl.1 rfl (Nat.le_of_ble_eq_true rfl) dL_change_339 ⟨Nat.le_of_ble_eq_true rfl, Nat.le_of_ble_eq_true rfl⟩ (fun v9 hv9 => ?_)
                  subst hv9
                  refine W.eq (g2 := F0 m 342 ls [.int (Z 7 (chU N v))]) rfl ?_
                  refine lv_if_lt (tgt := 354) hx hb dL_change_342 (by decide) (fun c_203 => ?_) (fun c_203 => ?_)
                  · have c_203n := Int32.not_le.mpr c_203
                    refine lv_iconst (v := 0) hx hb dL_change_354 (by decide) ?_
                    have hv9 : chg N Z v w = (0, N, Z) := by rw [hg]; unfold ch6; rw [if_neg (by first | assumption | omega | exact (fun q9 => by first | omega | exact absurd q9.2 (by assumption) | exact absurd q9.2.1 (by assumption) | exact absurd q9.2.2 (by assumption)))]
                    exact hret _ H _ _ _ _ _ (show some (Value.int 0) = some (Value.int ((chg N Z v w).1)) ∧ wst G T q a (chg N Z v w).2.1 (chg N Z v w).2.2 b tx L cu er le nb nc H from ⟨by rw [hv9], by rw [hv9]; exact wst_id hsc hP⟩) rfl hS (Nat.le_of_ble_eq_true rfl) (Nat.le_of_ble_eq_true rfl) dL_change_355
                  · have c_203n := Int32.not_lt.mp c_203
                    refine lv_aload_n hx hb dL_change_345 rfl (lv_at hl 2 rfl) ?_
                    refine lv_iload hx hb dL_change_346 (lv_at hl 8 rfl) ?_
                    refine wn_V S hkx hth (nX5_takeBack l hl0 (sa := sa) (A9 := A) (h9 := (fun q h => hA q (Nat.le_trans hS.1 h))) (hP := hP) (hD := hD.weaken (fun _ _ _ _ => trivial)) (hwf := hwf) (hsc := (by omega)) (hu := (chU_lt (by omega))) (hp := (pl_u hwf (chU_lt (by omega)) (by assumption)).1) (u := (chU N v))) gL_change_X5_takeBack rfl idX5_takeBack ⟨Nat.le_of_ble_eq_true rfl, Nat.le_of_ble_eq_true rfl⟩ hP 0 rfl rfl rfl rfl hl.1 rfl (Nat.le_of_ble_eq_true rfl) dL_change_348 ⟨Nat.le_of_ble_eq_true rfl, Nat.le_of_ble_eq_true rfl⟩ hS (fr_in hD (fun q h => hA q (Nat.le_trans hS.1 h))) (fun v9 H locs hp9 hz1 hk1 hS => ?_)
                    obtain ⟨rfl, hP⟩ := hp9
                    have hP : va_P G vwCl (wMain T q a N (uPl Z (chU N v) (-1) (-1)) (svB sc b) (psh sc M N) (psh sc Y Z) (svC sc) tx L cu er le nb nc) H := hP
                    have hD : va_D A (wMain T q a N (uPl Z (chU N v) (-1) (-1)) (svB sc b) (psh sc M N) (psh sc Y Z) (svC sc) tx L cu er le nb nc) := D_perm hD sv_addr
                    have hth := hth0.kept hS.2.1
                    refine W.eq (g2 := F0 m 351 ls [.int (Z 8 (chU N v))]) rfl ?_
                    refine lv_goto (tgt := 355) hx hb dL_change_351 (by decide) ?_
                    have hv9 : chg N Z v w = ((Z 8 (chU N v)), N, (uPl Z (chU N v) (-1) (-1))) := by rw [hg]; unfold ch6; rw [if_pos (by first | assumption | omega | exact ⟨by first | assumption | omega, by first | assumption | omega⟩ | exact ⟨by first | assumption | omega, by first | assumption | omega, by first | assumption | omega⟩)]
                    exact hret _ H _ _ _ _ _ (show some (Value.int (Z 8 (chU N v))) = some (Value.int ((chg N Z v w).1)) ∧ wst G T q a (chg N Z v w).2.1 (chg N Z v w).2.2 b tx L cu er le nb nc H from ⟨by rw [hv9], by rw [hv9]; exact wst_sv hsc hP⟩) rfl hS (Nat.le_of_ble_eq_true rfl) (Nat.le_of_ble_eq_true rfl) dL_change_355
              · refine lv_tableIn (off := 264) (tgt := 356) hx hb dL_change_92 (by decide) (by decide) rfl (by decide) ?_
                have hg : chg N Z v w = ch7 N Z v w := by unfold chg; rw [hcz]; rfl
                refine lv_iload hx hb dL_change_356 (lv_at hl 7 rfl) ?_
                refine lv_if_le (tgt := 401) hx hb dL_change_358 (by decide) (fun c_204 => ?_) (fun c_204 => ?_)
                · replace c_204 := cn_le (a := (N 2)) (b := 0) (by omega) (by omega) c_204
                  refine lv_iconst (v := 0) hx hb dL_change_401 (by decide) ?_
                  have hv9 : chg N Z v w = (0, N, Z) := by rw [hg]; unfold ch7; rw [if_neg (by first | assumption | omega | exact (fun q9 => by first | omega | exact absurd q9.2 (by assumption) | exact absurd q9.2.1 (by assumption) | exact absurd q9.2.2 (by assumption)))]
                  exact hret _ H _ _ _ _ _ (show some (Value.int 0) = some (Value.int ((chg N Z v w).1)) ∧ wst G T q a (chg N Z v w).2.1 (chg N Z v w).2.2 b tx L cu er le nb nc H from ⟨by rw [hv9], by rw [hv9]; exact wst_id hsc hP⟩) rfl hS (Nat.le_of_ble_eq_true rfl) (Nat.le_of_ble_eq_true rfl) dL_change_402
                · replace c_204 := cn_nle (a := (N 2)) (b := 0) (by omega) (by omega) c_204
                  refine lv_aload_n hx hb dL_change_361 rfl (lv_at hl 2 rfl) ?_
                  refine lv_iload hx hb dL_change_362 (lv_at hl 8 rfl) ?_
                  refine lv_iconst (v := 2) hx hb dL_change_364 (by decide) ?_
                  refine rn_V S hkx hth (nX5_user l hl0 (sa := sa) (h9 := (fun q h => hA q (Nat.le_trans hS.1 h))) (hP := hP) (hwf := hwf) (hu := (chU_lt (by omega))) (hw := (by omega)) (u := (chU N v)) (w := 2)) gL_change_X5_user rfl idX5_user ⟨Nat.le_of_ble_eq_true rfl, Nat.le_of_ble_eq_true rfl⟩ hP 0 rfl rfl rfl rfl hl.1 rfl (Nat.le_of_ble_eq_true rfl) dL_change_365 ⟨Nat.le_of_ble_eq_true rfl, Nat.le_of_ble_eq_true rfl⟩ (fun v9 hv9 => ?_)
                  subst hv9
                  refine W.eq (g2 := F0 m 368 ls [.int (Z 7 (chU N v))]) rfl ?_
                  refine lv_if_lt (tgt := 401) hx hb dL_change_368 (by decide) (fun c_205 => ?_) (fun c_205 => ?_)
                  · have c_205n := Int32.not_le.mpr c_205
                    refine lv_iconst (v := 0) hx hb dL_change_401 (by decide) ?_
                    have hv9 : chg N Z v w = (0, N, Z) := by rw [hg]; unfold ch7; rw [if_neg (by first | assumption | omega | exact (fun q9 => by first | omega | exact absurd q9.2 (by assumption) | exact absurd q9.2.1 (by assumption) | exact absurd q9.2.2 (by assumption)))]
                    exact hret _ H _ _ _ _ _ (show some (Value.int 0) = some (Value.int ((chg N Z v w).1)) ∧ wst G T q a (chg N Z v w).2.1 (chg N Z v w).2.2 b tx L cu er le nb nc H from ⟨by rw [hv9], by rw [hv9]; exact wst_id hsc hP⟩) rfl hS (Nat.le_of_ble_eq_true rfl) (Nat.le_of_ble_eq_true rfl) dL_change_402
                  · have c_205n := Int32.not_lt.mp c_205
                    refine lv_aload_n hx hb dL_change_371 rfl (lv_at hl 2 rfl) ?_
                    refine lv_iload hx hb dL_change_372 (lv_at hl 8 rfl) ?_
                    refine lv_iconst (v := 3) hx hb dL_change_374 (by decide) ?_
                    refine rn_V S hkx hth (nX5_user l hl0 (sa := sa) (h9 := (fun q h => hA q (Nat.le_trans hS.1 h))) (hP := hP) (hwf := hwf) (hu := (chU_lt (by omega))) (hw := (by omega)) (u := (chU N v)) (w := 3)) gL_change_X5_user rfl idX5_user ⟨Nat.le_of_ble_eq_true rfl, Nat.le_of_ble_eq_true rfl⟩ hP 0 rfl rfl rfl rfl hl.1 rfl (Nat.le_of_ble_eq_true rfl) dL_change_375 ⟨Nat.le_of_ble_eq_true rfl, Nat.le_of_ble_eq_true rfl⟩ (fun v9 hv9 => ?_)
                    subst hv9
                    refine W.eq (g2 := F0 m 378 ls [.int (Z 8 (chU N v))]) rfl ?_
                    refine lv_sipush (v := 900) hx hb dL_change_378 (by decide) ?_
                    refine lv_icmp_ge (tgt := 401) hx hb dL_change_381 (by decide) (fun c_206 => ?_) (fun c_206 => ?_)
                    · have c_206n := Int32.not_lt.mpr c_206
                      refine lv_iconst (v := 0) hx hb dL_change_401 (by decide) ?_
                      have hv9 : chg N Z v w = (0, N, Z) := by rw [hg]; unfold ch7; rw [if_neg (by first | assumption | omega | exact (fun q9 => by first | omega | exact absurd q9.2 (by assumption) | exact absurd q9.2.1 (by assumption) | exact absurd q9.2.2 (by assumption)))]
                      exact hret _ H _ _ _ _ _ (show some (Value.int 0) = some (Value.int ((chg N Z v w).1)) ∧ wst G T q a (chg N Z v w).2.1 (chg N Z v w).2.2 b tx L cu er le nb nc H from ⟨by rw [hv9], by rw [hv9]; exact wst_id hsc hP⟩) rfl hS (Nat.le_of_ble_eq_true rfl) (Nat.le_of_ble_eq_true rfl) dL_change_402
                    · have c_206n := Int32.not_le.mp c_206
                      refine lv_aload_n hx hb dL_change_384 rfl (lv_at hl 2 rfl) ?_
                      refine lv_iload hx hb dL_change_385 (lv_at hl 8 rfl) ?_
                      refine lv_iconst (v := 1) hx hb dL_change_387 (by decide) ?_
                      refine lv_iload_n hx hb dL_change_388 rfl (lv_at hl 4 rfl) ?_
                      refine lv_bipush (v := 99) hx hb dL_change_389 (by decide) ?_
                      refine ro_S S hkx (mL_low l (v := w) (k := 99) (h0 := (by omega)) (hk := (by omega))) gL_change_L_low rfl idL_low.2 ⟨Nat.le_of_ble_eq_true rfl, Nat.le_of_ble_eq_true rfl⟩ rfl hl.1 rfl (Nat.le_of_ble_eq_true rfl) dL_change_391 ⟨Nat.le_of_ble_eq_true rfl, Nat.le_of_ble_eq_true rfl⟩ (fun r9 hr9 => ?_)
                      subst hr9
                      refine W.eq (g2 := F0 m 394 ls [.int (nI (lowN w 99)), .int 1, .int (nI (chU N v)), .ref (q 0)]) rfl ?_
                      refine lv_iadd hx hb dL_change_394 ?_
                      refine W.eq (g2 := F0 m 395 ls [.int (nI (1 + (lowN w 99))), .int (nI (chU N v)), .ref (q 0)]) (congrArg (fun z9 => F0 m 395 ls (.int z9 :: [.int (nI (chU N v)), .ref (q 0)])) (nI_add 1 _)) ?_
                      refine wn_V S hkx hth (nX5_slip l hl0 (sa := sa) (A9 := A) (h9 := (fun q h => hA q (Nat.le_trans hS.1 h))) (hP := hP) (hD := hD.weaken (fun _ _ _ _ => trivial)) (hwf := hwf) (hsc := (by omega)) (hu := (chU_lt (by omega))) (ht1 := (by omega)) (ht := (by omega)) (hp := (pl_u hwf (chU_lt (by omega)) (by assumption)).1) (h9d := (sl_rng hwf (chU_lt (by omega)) (by assumption) (by assumption) (by omega))) (u := (chU N v)) (t := (1 + (lowN w 99)))) gL_change_X5_slip rfl idX5_slip ⟨Nat.le_of_ble_eq_true rfl, Nat.le_of_ble_eq_true rfl⟩ hP 0 rfl rfl rfl rfl hl.1 rfl (Nat.le_of_ble_eq_true rfl) dL_change_395 ⟨Nat.le_of_ble_eq_true rfl, Nat.le_of_ble_eq_true rfl⟩ hS (fr_in hD (fun q h => hA q (Nat.le_trans hS.1 h))) (fun v9 H locs hp9 hz1 hk1 hS => ?_)
                      obtain ⟨rfl, hP⟩ := hp9
                      have hP : va_P G vwCl (wMain T q a N (uSl Z (chU N v) (nI (1 + (lowN w 99)))) (svB sc b) (psh sc M N) (psh sc Y Z) (svC sc) tx L cu er le nb nc) H := hP
                      have hD : va_D A (wMain T q a N (uSl Z (chU N v) (nI (1 + (lowN w 99)))) (svB sc b) (psh sc M N) (psh sc Y Z) (svC sc) tx L cu er le nb nc) := D_perm hD sv_addr
                      have hth := hth0.kept hS.2.1
                      refine W.eq (g2 := F0 m 398 ls [.int (uSl Z (chU N v) (nI (1 + (lowN w 99))) 8 (chU N v))]) rfl ?_
                      refine lv_goto (tgt := 402) hx hb dL_change_398 (by decide) ?_
                      have hv9 : chg N Z v w = ((uSl Z (chU N v) (nI (1 + (lowN w 99))) 8 (chU N v)), N, (uSl Z (chU N v) (nI (1 + (lowN w 99))))) := by rw [hg]; unfold ch7; rw [if_pos (by first | assumption | omega | exact ⟨by first | assumption | omega, by first | assumption | omega⟩ | exact ⟨by first | assumption | omega, by first | assumption | omega, by first | assumption | omega⟩)]
                      exact hret _ H _ _ _ _ _ (show some (Value.int (uSl Z (chU N v) (nI (1 + (lowN w 99))) 8 (chU N v))) = some (Value.int ((chg N Z v w).1)) ∧ wst G T q a (chg N Z v w).2.1 (chg N Z v w).2.2 b tx L cu er le nb nc H from ⟨by rw [hv9], by rw [hv9]; exact wst_sv hsc hP⟩) rfl hS (Nat.le_of_ble_eq_true rfl) (Nat.le_of_ble_eq_true rfl) dL_change_402
              · refine lv_tableIn (off := 311) (tgt := 403) hx hb dL_change_92 (by decide) (by decide) rfl (by decide) ?_
                have hg : chg N Z v w = ch8 N Z v w := by unfold chg; rw [hcz]; rfl
                refine lv_iload_n hx hb dL_change_403 rfl (lv_at hl 5 rfl) ?_
                refine lv_if_le (tgt := 437) hx hb dL_change_404 (by decide) (fun c_207 => ?_) (fun c_207 => ?_)
                · replace c_207 := cn_le (a := (N 0)) (b := 0) (by omega) (by omega) c_207
                  refine lv_iconst (v := 0) hx hb dL_change_437 (by decide) ?_
                  have hv9 : chg N Z v w = (0, N, Z) := by rw [hg]; unfold ch8; rw [if_neg (by first | assumption | omega | exact (fun q9 => by first | omega | exact absurd q9.2 (by assumption) | exact absurd q9.2.1 (by assumption) | exact absurd q9.2.2 (by assumption)))]
                  exact hret _ H _ _ _ _ _ (show some (Value.int 0) = some (Value.int ((chg N Z v w).1)) ∧ wst G T q a (chg N Z v w).2.1 (chg N Z v w).2.2 b tx L cu er le nb nc H from ⟨by rw [hv9], by rw [hv9]; exact wst_id hsc hP⟩) rfl hS (Nat.le_of_ble_eq_true rfl) (Nat.le_of_ble_eq_true rfl) dL_change_438
                · replace c_207 := cn_nle (a := (N 0)) (b := 0) (by omega) (by omega) c_207
                  refine lv_aload_n hx hb dL_change_407 rfl (lv_at hl 2 rfl) ?_
                  refine lv_iload hx hb dL_change_408 (lv_at hl 9 rfl) ?_
                  refine lv_iconst (v := 1) hx hb dL_change_410 (by decide) ?_
                  refine rn_V S hkx hth (nX5_version l hl0 (sa := sa) (h9 := (fun q h => hA q (Nat.le_trans hS.1 h))) (hP := hP) (hwf := hwf) (hv := (chA_lt (by omega))) (hw := (by omega)) (v := (chA N v)) (w := 1)) gL_change_X5_version rfl idX5_version ⟨Nat.le_of_ble_eq_true rfl, Nat.le_of_ble_eq_true rfl⟩ hP 0 rfl rfl rfl rfl hl.1 rfl (Nat.le_of_ble_eq_true rfl) dL_change_411 ⟨Nat.le_of_ble_eq_true rfl, Nat.le_of_ble_eq_true rfl⟩ (fun v9 hv9 => ?_)
                  subst hv9
                  refine W.eq (g2 := F0 m 414 ls [.int (Z 2 (chA N v))]) rfl ?_
                  refine lv_sipush (v := 900) hx hb dL_change_414 (by decide) ?_
                  refine lv_icmp_ge (tgt := 437) hx hb dL_change_417 (by decide) (fun c_208 => ?_) (fun c_208 => ?_)
                  · have c_208n := Int32.not_lt.mpr c_208
                    refine lv_iconst (v := 0) hx hb dL_change_437 (by decide) ?_
                    have hv9 : chg N Z v w = (0, N, Z) := by rw [hg]; unfold ch8; rw [if_neg (by first | assumption | omega | exact (fun q9 => by first | omega | exact absurd q9.2 (by assumption) | exact absurd q9.2.1 (by assumption) | exact absurd q9.2.2 (by assumption)))]
                    exact hret _ H _ _ _ _ _ (show some (Value.int 0) = some (Value.int ((chg N Z v w).1)) ∧ wst G T q a (chg N Z v w).2.1 (chg N Z v w).2.2 b tx L cu er le nb nc H from ⟨by rw [hv9], by rw [hv9]; exact wst_id hsc hP⟩) rfl hS (Nat.le_of_ble_eq_true rfl) (Nat.le_of_ble_eq_true rfl) dL_change_438
                  · have c_208n := Int32.not_le.mp c_208
                    refine lv_aload_n hx hb dL_change_420 rfl (lv_at hl 2 rfl) ?_
                    refine lv_iload hx hb dL_change_421 (lv_at hl 9 rfl) ?_
                    refine lv_iconst (v := 1) hx hb dL_change_423 (by decide) ?_
                    refine lv_iload_n hx hb dL_change_424 rfl (lv_at hl 4 rfl) ?_
                    refine lv_bipush (v := 99) hx hb dL_change_425 (by decide) ?_
                    refine ro_S S hkx (mL_low l (v := w) (k := 99) (h0 := (by omega)) (hk := (by omega))) gL_change_L_low rfl idL_low.2 ⟨Nat.le_of_ble_eq_true rfl, Nat.le_of_ble_eq_true rfl⟩ rfl hl.1 rfl (Nat.le_of_ble_eq_true rfl) dL_change_427 ⟨Nat.le_of_ble_eq_true rfl, Nat.le_of_ble_eq_true rfl⟩ (fun r9 hr9 => ?_)
                    subst hr9
                    refine W.eq (g2 := F0 m 430 ls [.int (nI (lowN w 99)), .int 1, .int (nI (chA N v)), .ref (q 0)]) rfl ?_
                    refine lv_iadd hx hb dL_change_430 ?_
                    refine W.eq (g2 := F0 m 431 ls [.int (nI (1 + (lowN w 99))), .int (nI (chA N v)), .ref (q 0)]) (congrArg (fun z9 => F0 m 431 ls (.int z9 :: [.int (nI (chA N v)), .ref (q 0)])) (nI_add 1 _)) ?_
                    refine wn_V S hkx hth (nX5_extend l hl0 (sa := sa) (A9 := A) (h9 := (fun q h => hA q (Nat.le_trans hS.1 h))) (hP := hP) (hD := hD.weaken (fun _ _ _ _ => trivial)) (hwf := hwf) (hsc := (by omega)) (hv := (chA_lt (by omega))) (ht1 := (by omega)) (ht := (by omega)) (h9d := (ex_rng hwf (chA_lt (by omega)) (by assumption) (by omega))) (v := (chA N v)) (t := (1 + (lowN w 99)))) gL_change_X5_extend rfl idX5_extend ⟨Nat.le_of_ble_eq_true rfl, Nat.le_of_ble_eq_true rfl⟩ hP 0 rfl rfl rfl rfl hl.1 rfl (Nat.le_of_ble_eq_true rfl) dL_change_431 ⟨Nat.le_of_ble_eq_true rfl, Nat.le_of_ble_eq_true rfl⟩ hS (fr_in hD (fun q h => hA q (Nat.le_trans hS.1 h))) (fun v9 H locs hp9 hz1 hk1 hS => ?_)
                    obtain ⟨rfl, hP⟩ := hp9
                    have hP : va_P G vwCl (wMain T q a N (vExt Z (chA N v) (nI (1 + (lowN w 99)))) (svB sc b) (psh sc M N) (psh sc Y Z) (svC sc) tx L cu er le nb nc) H := hP
                    have hD : va_D A (wMain T q a N (vExt Z (chA N v) (nI (1 + (lowN w 99)))) (svB sc b) (psh sc M N) (psh sc Y Z) (svC sc) tx L cu er le nb nc) := D_perm hD sv_addr
                    have hth := hth0.kept hS.2.1
                    refine W.eq (g2 := F0 m 434 ls [.int (vExt Z (chA N v) (nI (1 + (lowN w 99))) 2 (chA N v))]) rfl ?_
                    refine lv_goto (tgt := 438) hx hb dL_change_434 (by decide) ?_
                    have hv9 : chg N Z v w = ((vExt Z (chA N v) (nI (1 + (lowN w 99))) 2 (chA N v)), N, (vExt Z (chA N v) (nI (1 + (lowN w 99))))) := by rw [hg]; unfold ch8; rw [if_pos (by first | assumption | omega | exact ⟨by first | assumption | omega, by first | assumption | omega⟩ | exact ⟨by first | assumption | omega, by first | assumption | omega, by first | assumption | omega⟩)]
                    exact hret _ H _ _ _ _ _ (show some (Value.int (vExt Z (chA N v) (nI (1 + (lowN w 99))) 2 (chA N v))) = some (Value.int ((chg N Z v w).1)) ∧ wst G T q a (chg N Z v w).2.1 (chg N Z v w).2.2 b tx L cu er le nb nc H from ⟨by rw [hv9], by rw [hv9]; exact wst_sv hsc hP⟩) rfl hS (Nat.le_of_ble_eq_true rfl) (Nat.le_of_ble_eq_true rfl) dL_change_438
              · refine lv_tableIn (off := 347) (tgt := 439) hx hb dL_change_92 (by decide) (by decide) rfl (by decide) ?_
                have hg : chg N Z v w = ch9 N Z v w := by unfold chg; rw [hcz]; rfl
                refine lv_iload_n hx hb dL_change_439 rfl (lv_at hl 4 rfl) ?_
                refine lv_sipush (v := 600) hx hb dL_change_440 (by decide) ?_
                refine ro_S S hkx (mL_low l (v := w) (k := 600) (h0 := (by omega)) (hk := (by omega))) gL_change_L_low rfl idL_low.2 ⟨Nat.le_of_ble_eq_true rfl, Nat.le_of_ble_eq_true rfl⟩ rfl hl.1 rfl (Nat.le_of_ble_eq_true rfl) dL_change_443 ⟨Nat.le_of_ble_eq_true rfl, Nat.le_of_ble_eq_true rfl⟩ (fun r9 hr9 => ?_)
                subst hr9
                refine W.eq (g2 := F0 m 446 ls [.int (nI (lowN w 600))]) rfl ?_
                refine lv_istore (lv' := [(10, .int (nI (lowN w 600))), (9, .int (nI (lowN w 200))), (8, .int (nI (chF N v))), (0, .ref (q 0)), (1, .int v), (2, .int w), (3, .int (nI (N 0))), (4, .int (nI (N 1))), (5, .int (nI (N 2))), (6, .int (nI (chU N v))), (7, .int (nI (chA N v)))]) hx hb dL_change_446 hl (by decide) rfl (fun ls hl => ?_)
                refine lv_iload_n hx hb dL_change_448 rfl (lv_at hl 6 rfl) ?_
                refine lv_if_le (tgt := 506) hx hb dL_change_449 (by decide) (fun c_209 => ?_) (fun c_209 => ?_)
                · replace c_209 := cn_le (a := (N 0)) (b := 0) (by omega) (by omega) c_209
                  refine lv_iconst (v := 0) hx hb dL_change_506 (by decide) ?_
                  have hv9 : chg N Z v w = (0, N, Z) := by rw [hg]; unfold ch9; rw [if_neg (by first | assumption | omega | exact (fun q9 => by first | omega | exact absurd q9.2 (by assumption) | exact absurd q9.2.1 (by assumption) | exact absurd q9.2.2 (by assumption)))]
                  exact hret _ H _ _ _ _ _ (show some (Value.int 0) = some (Value.int ((chg N Z v w).1)) ∧ wst G T q a (chg N Z v w).2.1 (chg N Z v w).2.2 b tx L cu er le nb nc H from ⟨by rw [hv9], by rw [hv9]; exact wst_id hsc hP⟩) rfl hS (Nat.le_of_ble_eq_true rfl) (Nat.le_of_ble_eq_true rfl) dL_change_507
                · replace c_209 := cn_nle (a := (N 0)) (b := 0) (by omega) (by omega) c_209
                  refine lv_iload hx hb dL_change_452 (lv_at hl 7 rfl) ?_
                  refine lv_if_le (tgt := 506) hx hb dL_change_454 (by decide) (fun c_210 => ?_) (fun c_210 => ?_)
                  · replace c_210 := cn_le (a := (N 1)) (b := 0) (by omega) (by omega) c_210
                    refine lv_iconst (v := 0) hx hb dL_change_506 (by decide) ?_
                    have hv9 : chg N Z v w = (0, N, Z) := by rw [hg]; unfold ch9; rw [if_neg (by first | assumption | omega | exact (fun q9 => by first | omega | exact absurd q9.2 (by assumption) | exact absurd q9.2.1 (by assumption) | exact absurd q9.2.2 (by assumption)))]
                    exact hret _ H _ _ _ _ _ (show some (Value.int 0) = some (Value.int ((chg N Z v w).1)) ∧ wst G T q a (chg N Z v w).2.1 (chg N Z v w).2.2 b tx L cu er le nb nc H from ⟨by rw [hv9], by rw [hv9]; exact wst_id hsc hP⟩) rfl hS (Nat.le_of_ble_eq_true rfl) (Nat.le_of_ble_eq_true rfl) dL_change_507
                  · replace c_210 := cn_nle (a := (N 1)) (b := 0) (by omega) (by omega) c_210
                    refine lv_aload_n hx hb dL_change_457 rfl (lv_at hl 3 rfl) ?_
                    refine lv_iconst (v := 3) hx hb dL_change_458 (by decide) ?_
                    refine rn_V S hkx hth (nX5_value l hl0 (sa := sa) (h9 := (fun q h => hA q (Nat.le_trans hS.1 h))) (hP := hP) (hwf := hwf) (hw := (by omega)) (w := 3)) gL_change_X5_value rfl idX5_value ⟨Nat.le_of_ble_eq_true rfl, Nat.le_of_ble_eq_true rfl⟩ hP 0 rfl rfl rfl rfl hl.1 rfl (Nat.le_of_ble_eq_true rfl) dL_change_459 ⟨Nat.le_of_ble_eq_true rfl, Nat.le_of_ble_eq_true rfl⟩ (fun v9 hv9 => ?_)
                    subst hv9
                    refine W.eq (g2 := F0 m 462 ls [.int (nI (N 3))]) rfl ?_
                    refine lv_bipush (v := 6) hx hb dL_change_462 (by decide) ?_
                    refine lv_icmp_ge (tgt := 506) hx hb dL_change_464 (by decide) (fun c_211 => ?_) (fun c_211 => ?_)
                    · replace c_211 := cn_le (a := 6) (b := (N 3)) (by omega) (by omega) c_211
                      refine lv_iconst (v := 0) hx hb dL_change_506 (by decide) ?_
                      have hv9 : chg N Z v w = (0, N, Z) := by rw [hg]; unfold ch9; rw [if_neg (by first | assumption | omega | exact (fun q9 => by first | omega | exact absurd q9.2 (by assumption) | exact absurd q9.2.1 (by assumption) | exact absurd q9.2.2 (by assumption)))]
                      exact hret _ H _ _ _ _ _ (show some (Value.int 0) = some (Value.int ((chg N Z v w).1)) ∧ wst G T q a (chg N Z v w).2.1 (chg N Z v w).2.2 b tx L cu er le nb nc H from ⟨by rw [hv9], by rw [hv9]; exact wst_id hsc hP⟩) rfl hS (Nat.le_of_ble_eq_true rfl) (Nat.le_of_ble_eq_true rfl) dL_change_507
                    · replace c_211 := cn_nle (a := 6) (b := (N 3)) (by omega) (by omega) c_211
                      refine lv_aload_n hx hb dL_change_467 rfl (lv_at hl 3 rfl) ?_
                      refine lv_iload hx hb dL_change_468 (lv_at hl 2 rfl) ?_
                      refine lv_iload hx hb dL_change_470 (lv_at hl 10 rfl) ?_
                      refine lv_iload hx hb dL_change_472 (lv_at hl 0 rfl) ?_
                      refine lv_iload hx hb dL_change_474 (lv_at hl 0 rfl) ?_
                      refine lv_iload_n hx hb dL_change_476 rfl (lv_at hl 5 rfl) ?_
                      refine lv_bipush (v := 10) hx hb dL_change_477 (by decide) ?_
                      refine lv_ishr hx hb dL_change_479 ?_
                      refine lv_sipush (v := 1000) hx hb dL_change_480 (by decide) ?_
                      refine lv_iload hx hb dL_change_483 (lv_at hl 0 rfl) ?_
                      refine lv_isub hx hb dL_change_485 ?_
                      refine W.eq (g2 := F0 m 486 ls [.int (nI (1000 - (lowN w 600))), .int (w >>> (10 &&& 31)), .int (nI (lowN w 600)), .int (nI (lowN w 600)), .int (nI (chA N v)), .int (nI (chF N v)), .ref (q 0)]) (congrArg (fun z9 => F0 m 486 ls (.int z9 :: [.int (w >>> (10 &&& 31)), .int (nI (lowN w 600)), .int (nI (lowN w 600)), .int (nI (chA N v)), .int (nI (chF N v)), .ref (q 0)])) (pk_sub (a := 1000) (b := (lowN w 600)) (by omega))) ?_
                      refine ro_S S hkx (mL_low l (v := (w >>> (10 &&& 31))) (k := (1000 - (lowN w 600))) (h0 := (by omega)) (hk := (by omega))) gL_change_L_low rfl idL_low.2 ⟨Nat.le_of_ble_eq_true rfl, Nat.le_of_ble_eq_true rfl⟩ rfl hl.1 rfl (Nat.le_of_ble_eq_true rfl) dL_change_486 ⟨Nat.le_of_ble_eq_true rfl, Nat.le_of_ble_eq_true rfl⟩ (fun r9 hr9 => ?_)
                      subst hr9
                      refine W.eq (g2 := F0 m 489 ls [.int (nI (lowN (w >>> (10 &&& 31)) (1000 - (lowN w 600)))), .int (nI (lowN w 600)), .int (nI (lowN w 600)), .int (nI (chA N v)), .int (nI (chF N v)), .ref (q 0)]) rfl ?_
                      refine lv_iadd hx hb dL_change_489 ?_
                      refine W.eq (g2 := F0 m 490 ls [.int (nI ((lowN w 600) + (lowN (w >>> (10 &&& 31)) (1000 - (lowN w 600))))), .int (nI (lowN w 600)), .int (nI (chA N v)), .int (nI (chF N v)), .ref (q 0)]) (congrArg (fun z9 => F0 m 490 ls (.int z9 :: [.int (nI (lowN w 600)), .int (nI (chA N v)), .int (nI (chF N v)), .ref (q 0)])) (nI_add _ _)) ?_
                      refine lv_iconst (v := 1) hx hb dL_change_490 (by decide) ?_
                      refine lv_iload_n hx hb dL_change_491 rfl (lv_at hl 5 rfl) ?_
                      refine lv_iconst (v := 4) hx hb dL_change_492 (by decide) ?_
                      refine lv_ishr hx hb dL_change_493 ?_
                      refine lv_bipush (v := 99) hx hb dL_change_494 (by decide) ?_
                      refine ro_S S hkx (mL_low l (v := (w >>> (4 &&& 31))) (k := 99) (h0 := (by omega)) (hk := (by omega))) gL_change_L_low rfl idL_low.2 ⟨Nat.le_of_ble_eq_true rfl, Nat.le_of_ble_eq_true rfl⟩ rfl hl.1 rfl (Nat.le_of_ble_eq_true rfl) dL_change_496 ⟨Nat.le_of_ble_eq_true rfl, Nat.le_of_ble_eq_true rfl⟩ (fun r9 hr9 => ?_)
                      subst hr9
                      refine W.eq (g2 := F0 m 499 ls [.int (nI (lowN (w >>> (4 &&& 31)) 99)), .int 1, .int (nI ((lowN w 600) + (lowN (w >>> (10 &&& 31)) (1000 - (lowN w 600))))), .int (nI (lowN w 600)), .int (nI (chA N v)), .int (nI (chF N v)), .ref (q 0)]) rfl ?_
                      refine lv_iadd hx hb dL_change_499 ?_
                      refine W.eq (g2 := F0 m 500 ls [.int (nI (1 + (lowN (w >>> (4 &&& 31)) 99))), .int (nI ((lowN w 600) + (lowN (w >>> (10 &&& 31)) (1000 - (lowN w 600))))), .int (nI (lowN w 600)), .int (nI (chA N v)), .int (nI (chF N v)), .ref (q 0)]) (congrArg (fun z9 => F0 m 500 ls (.int z9 :: [.int (nI ((lowN w 600) + (lowN (w >>> (10 &&& 31)) (1000 - (lowN w 600))))), .int (nI (lowN w 600)), .int (nI (chA N v)), .int (nI (chF N v)), .ref (q 0)])) (nI_add 1 _)) ?_
                      refine wn_V S hkx hth (nX5_addShim l hl0 (sa := sa) (A9 := A) (h9 := (fun q h => hA q (Nat.le_trans hS.1 h))) (hP := hP) (hD := hD.weaken (fun _ _ _ _ => trivial)) (hwf := hwf) (hsc := (by omega)) (hf := (chF_lt (by omega))) (hv := (chA_lt (by omega))) (hx := (by omega)) (hz := (by omega)) (hy1 := (by omega)) (hy := (by omega)) (h8 := (by omega)) (f := (chF N v)) (v := (chA N v)) (x := (lowN w 600)) (z := ((lowN w 600) + (lowN (w >>> (10 &&& 31)) (1000 - (lowN w 600))))) (y := (1 + (lowN (w >>> (4 &&& 31)) 99)))) gL_change_X5_addShim rfl idX5_addShim ⟨Nat.le_of_ble_eq_true rfl, Nat.le_of_ble_eq_true rfl⟩ hP 0 rfl rfl rfl rfl hl.1 rfl (Nat.le_of_ble_eq_true rfl) dL_change_500 ⟨Nat.le_of_ble_eq_true rfl, Nat.le_of_ble_eq_true rfl⟩ hS (fr_in hD (fun q h => hA q (Nat.le_trans hS.1 h))) (fun v9 H locs hp9 hz1 hk1 hS => ?_)
                      obtain ⟨rfl, hP⟩ := hp9
                      have hP : va_P G vwCl (wMain T q a (va_up N 3 (N 3 + 1)) (sAdd N Z (nI (chF N v)) (nI (chA N v)) (nI (lowN w 600)) (nI ((lowN w 600) + (lowN (w >>> (10 &&& 31)) (1000 - (lowN w 600))))) (nI (1 + (lowN (w >>> (4 &&& 31)) 99)))) (svB sc b) (psh sc M N) (psh sc Y Z) (svC sc) tx L cu er le nb nc) H := hP
                      have hD : va_D A (wMain T q a (va_up N 3 (N 3 + 1)) (sAdd N Z (nI (chF N v)) (nI (chA N v)) (nI (lowN w 600)) (nI ((lowN w 600) + (lowN (w >>> (10 &&& 31)) (1000 - (lowN w 600))))) (nI (1 + (lowN (w >>> (4 &&& 31)) 99)))) (svB sc b) (psh sc M N) (psh sc Y Z) (svC sc) tx L cu er le nb nc) := D_perm hD sv_addr
                      have hth := hth0.kept hS.2.1
                      refine W.eq (g2 := F0 m 503 ls [.int (nI (N 3))]) rfl ?_
                      refine lv_goto (tgt := 507) hx hb dL_change_503 (by decide) ?_
                      have hv9 : chg N Z v w = ((nI (N 3)), (va_up N 3 (N 3 + 1)), (sAdd N Z (nI (chF N v)) (nI (chA N v)) (nI (lowN w 600)) (nI ((lowN w 600) + (lowN (w >>> (10 &&& 31)) (1000 - (lowN w 600))))) (nI (1 + (lowN (w >>> (4 &&& 31)) 99))))) := by rw [hg]; unfold ch9; rw [if_pos (by first | assumption | omega | exact ⟨by first | assumption | omega, by first | assumption | omega⟩ | exact ⟨by first | assumption | omega, by first | assumption | omega, by first | assumption | omega⟩)]
                      exact hret _ H _ _ _ _ _ (show some (Value.int (nI (N 3))) = some (Value.int ((chg N Z v w).1)) ∧ wst G T q a (chg N Z v w).2.1 (chg N Z v w).2.2 b tx L cu er le nb nc H from ⟨by rw [hv9], by rw [hv9]; exact wst_sv hsc hP⟩) rfl hS (Nat.le_of_ble_eq_true rfl) (Nat.le_of_ble_eq_true rfl) dL_change_507
              · refine lv_tableIn (off := 347) (tgt := 439) hx hb dL_change_92 (by decide) (by decide) rfl (by decide) ?_
                have hg : chg N Z v w = ch9 N Z v w := by unfold chg; rw [hcz]; rfl
                refine lv_iload_n hx hb dL_change_439 rfl (lv_at hl 4 rfl) ?_
                refine lv_sipush (v := 600) hx hb dL_change_440 (by decide) ?_
                refine ro_S S hkx (mL_low l (v := w) (k := 600) (h0 := (by omega)) (hk := (by omega))) gL_change_L_low rfl idL_low.2 ⟨Nat.le_of_ble_eq_true rfl, Nat.le_of_ble_eq_true rfl⟩ rfl hl.1 rfl (Nat.le_of_ble_eq_true rfl) dL_change_443 ⟨Nat.le_of_ble_eq_true rfl, Nat.le_of_ble_eq_true rfl⟩ (fun r9 hr9 => ?_)
                subst hr9
                refine W.eq (g2 := F0 m 446 ls [.int (nI (lowN w 600))]) rfl ?_
                refine lv_istore (lv' := [(10, .int (nI (lowN w 600))), (9, .int (nI (lowN w 200))), (8, .int (nI (chF N v))), (0, .ref (q 0)), (1, .int v), (2, .int w), (3, .int (nI (N 0))), (4, .int (nI (N 1))), (5, .int (nI (N 2))), (6, .int (nI (chU N v))), (7, .int (nI (chA N v)))]) hx hb dL_change_446 hl (by decide) rfl (fun ls hl => ?_)
                refine lv_iload_n hx hb dL_change_448 rfl (lv_at hl 6 rfl) ?_
                refine lv_if_le (tgt := 506) hx hb dL_change_449 (by decide) (fun c_212 => ?_) (fun c_212 => ?_)
                · replace c_212 := cn_le (a := (N 0)) (b := 0) (by omega) (by omega) c_212
                  refine lv_iconst (v := 0) hx hb dL_change_506 (by decide) ?_
                  have hv9 : chg N Z v w = (0, N, Z) := by rw [hg]; unfold ch9; rw [if_neg (by first | assumption | omega | exact (fun q9 => by first | omega | exact absurd q9.2 (by assumption) | exact absurd q9.2.1 (by assumption) | exact absurd q9.2.2 (by assumption)))]
                  exact hret _ H _ _ _ _ _ (show some (Value.int 0) = some (Value.int ((chg N Z v w).1)) ∧ wst G T q a (chg N Z v w).2.1 (chg N Z v w).2.2 b tx L cu er le nb nc H from ⟨by rw [hv9], by rw [hv9]; exact wst_id hsc hP⟩) rfl hS (Nat.le_of_ble_eq_true rfl) (Nat.le_of_ble_eq_true rfl) dL_change_507
                · replace c_212 := cn_nle (a := (N 0)) (b := 0) (by omega) (by omega) c_212
                  refine lv_iload hx hb dL_change_452 (lv_at hl 7 rfl) ?_
                  refine lv_if_le (tgt := 506) hx hb dL_change_454 (by decide) (fun c_213 => ?_) (fun c_213 => ?_)
                  · replace c_213 := cn_le (a := (N 1)) (b := 0) (by omega) (by omega) c_213
                    refine lv_iconst (v := 0) hx hb dL_change_506 (by decide) ?_
                    have hv9 : chg N Z v w = (0, N, Z) := by rw [hg]; unfold ch9; rw [if_neg (by first | assumption | omega | exact (fun q9 => by first | omega | exact absurd q9.2 (by assumption) | exact absurd q9.2.1 (by assumption) | exact absurd q9.2.2 (by assumption)))]
                    exact hret _ H _ _ _ _ _ (show some (Value.int 0) = some (Value.int ((chg N Z v w).1)) ∧ wst G T q a (chg N Z v w).2.1 (chg N Z v w).2.2 b tx L cu er le nb nc H from ⟨by rw [hv9], by rw [hv9]; exact wst_id hsc hP⟩) rfl hS (Nat.le_of_ble_eq_true rfl) (Nat.le_of_ble_eq_true rfl) dL_change_507
                  · replace c_213 := cn_nle (a := (N 1)) (b := 0) (by omega) (by omega) c_213
                    refine lv_aload_n hx hb dL_change_457 rfl (lv_at hl 3 rfl) ?_
                    refine lv_iconst (v := 3) hx hb dL_change_458 (by decide) ?_
                    refine rn_V S hkx hth (nX5_value l hl0 (sa := sa) (h9 := (fun q h => hA q (Nat.le_trans hS.1 h))) (hP := hP) (hwf := hwf) (hw := (by omega)) (w := 3)) gL_change_X5_value rfl idX5_value ⟨Nat.le_of_ble_eq_true rfl, Nat.le_of_ble_eq_true rfl⟩ hP 0 rfl rfl rfl rfl hl.1 rfl (Nat.le_of_ble_eq_true rfl) dL_change_459 ⟨Nat.le_of_ble_eq_true rfl, Nat.le_of_ble_eq_true rfl⟩ (fun v9 hv9 => ?_)
                    subst hv9
                    refine W.eq (g2 := F0 m 462 ls [.int (nI (N 3))]) rfl ?_
                    refine lv_bipush (v := 6) hx hb dL_change_462 (by decide) ?_
                    refine lv_icmp_ge (tgt := 506) hx hb dL_change_464 (by decide) (fun c_214 => ?_) (fun c_214 => ?_)
                    · replace c_214 := cn_le (a := 6) (b := (N 3)) (by omega) (by omega) c_214
                      refine lv_iconst (v := 0) hx hb dL_change_506 (by decide) ?_
                      have hv9 : chg N Z v w = (0, N, Z) := by rw [hg]; unfold ch9; rw [if_neg (by first | assumption | omega | exact (fun q9 => by first | omega | exact absurd q9.2 (by assumption) | exact absurd q9.2.1 (by assumption) | exact absurd q9.2.2 (by assumption)))]
                      exact hret _ H _ _ _ _ _ (show some (Value.int 0) = some (Value.int ((chg N Z v w).1)) ∧ wst G T q a (chg N Z v w).2.1 (chg N Z v w).2.2 b tx L cu er le nb nc H from ⟨by rw [hv9], by rw [hv9]; exact wst_id hsc hP⟩) rfl hS (Nat.le_of_ble_eq_true rfl) (Nat.le_of_ble_eq_true rfl) dL_change_507
                    · replace c_214 := cn_nle (a := 6) (b := (N 3)) (by omega) (by omega) c_214
                      refine lv_aload_n hx hb dL_change_467 rfl (lv_at hl 3 rfl) ?_
                      refine lv_iload hx hb dL_change_468 (lv_at hl 2 rfl) ?_
                      refine lv_iload hx hb dL_change_470 (lv_at hl 10 rfl) ?_
                      refine lv_iload hx hb dL_change_472 (lv_at hl 0 rfl) ?_
                      refine lv_iload hx hb dL_change_474 (lv_at hl 0 rfl) ?_
                      refine lv_iload_n hx hb dL_change_476 rfl (lv_at hl 5 rfl) ?_
                      refine lv_bipush (v := 10) hx hb dL_change_477 (by decide) ?_
                      refine lv_ishr hx hb dL_change_479 ?_
                      refine lv_sipush (v := 1000) hx hb dL_change_480 (by decide) ?_
                      refine lv_iload hx hb dL_change_483 (lv_at hl 0 rfl) ?_
                      refine lv_isub hx hb dL_change_485 ?_
                      refine W.eq (g2 := F0 m 486 ls [.int (nI (1000 - (lowN w 600))), .int (w >>> (10 &&& 31)), .int (nI (lowN w 600)), .int (nI (lowN w 600)), .int (nI (chA N v)), .int (nI (chF N v)), .ref (q 0)]) (congrArg (fun z9 => F0 m 486 ls (.int z9 :: [.int (w >>> (10 &&& 31)), .int (nI (lowN w 600)), .int (nI (lowN w 600)), .int (nI (chA N v)), .int (nI (chF N v)), .ref (q 0)])) (pk_sub (a := 1000) (b := (lowN w 600)) (by omega))) ?_
                      refine ro_S S hkx (mL_low l (v := (w >>> (10 &&& 31))) (k := (1000 - (lowN w 600))) (h0 := (by omega)) (hk := (by omega))) gL_change_L_low rfl idL_low.2 ⟨Nat.le_of_ble_eq_true rfl, Nat.le_of_ble_eq_true rfl⟩ rfl hl.1 rfl (Nat.le_of_ble_eq_true rfl) dL_change_486 ⟨Nat.le_of_ble_eq_true rfl, Nat.le_of_ble_eq_true rfl⟩ (fun r9 hr9 => ?_)
                      subst hr9
                      refine W.eq (g2 := F0 m 489 ls [.int (nI (lowN (w >>> (10 &&& 31)) (1000 - (lowN w 600)))), .int (nI (lowN w 600)), .int (nI (lowN w 600)), .int (nI (chA N v)), .int (nI (chF N v)), .ref (q 0)]) rfl ?_
                      refine lv_iadd hx hb dL_change_489 ?_
                      refine W.eq (g2 := F0 m 490 ls [.int (nI ((lowN w 600) + (lowN (w >>> (10 &&& 31)) (1000 - (lowN w 600))))), .int (nI (lowN w 600)), .int (nI (chA N v)), .int (nI (chF N v)), .ref (q 0)]) (congrArg (fun z9 => F0 m 490 ls (.int z9 :: [.int (nI (lowN w 600)), .int (nI (chA N v)), .int (nI (chF N v)), .ref (q 0)])) (nI_add _ _)) ?_
                      refine lv_iconst (v := 1) hx hb dL_change_490 (by decide) ?_
                      refine lv_iload_n hx hb dL_change_491 rfl (lv_at hl 5 rfl) ?_
                      refine lv_iconst (v := 4) hx hb dL_change_492 (by decide) ?_
                      refine lv_ishr hx hb dL_change_493 ?_
                      refine lv_bipush (v := 99) hx hb dL_change_494 (by decide) ?_
                      refine ro_S S hkx (mL_low l (v := (w >>> (4 &&& 31))) (k := 99) (h0 := (by omega)) (hk := (by omega))) gL_change_L_low rfl idL_low.2 ⟨Nat.le_of_ble_eq_true rfl, Nat.le_of_ble_eq_true rfl⟩ rfl hl.1 rfl (Nat.le_of_ble_eq_true rfl) dL_change_496 ⟨Nat.le_of_ble_eq_true rfl, Nat.le_of_ble_eq_true rfl⟩ (fun r9 hr9 => ?_)
                      subst hr9
                      refine W.eq (g2 := F0 m 499 ls [.int (nI (lowN (w >>> (4 &&& 31)) 99)), .int 1, .int (nI ((lowN w 600) + (lowN (w >>> (10 &&& 31)) (1000 - (lowN w 600))))), .int (nI (lowN w 600)), .int (nI (chA N v)), .int (nI (chF N v)), .ref (q 0)]) rfl ?_
                      refine lv_iadd hx hb dL_change_499 ?_
                      refine W.eq (g2 := F0 m 500 ls [.int (nI (1 + (lowN (w >>> (4 &&& 31)) 99))), .int (nI ((lowN w 600) + (lowN (w >>> (10 &&& 31)) (1000 - (lowN w 600))))), .int (nI (lowN w 600)), .int (nI (chA N v)), .int (nI (chF N v)), .ref (q 0)]) (congrArg (fun z9 => F0 m 500 ls (.int z9 :: [.int (nI ((lowN w 600) + (lowN (w >>> (10 &&& 31)) (1000 - (lowN w 600))))), .int (nI (lowN w 600)), .int (nI (chA N v)), .int (nI (chF N v)), .ref (q 0)])) (nI_add 1 _)) ?_
                      refine wn_V S hkx hth (nX5_addShim l hl0 (sa := sa) (A9 := A) (h9 := (fun q h => hA q (Nat.le_trans hS.1 h))) (hP := hP) (hD := hD.weaken (fun _ _ _ _ => trivial)) (hwf := hwf) (hsc := (by omega)) (hf := (chF_lt (by omega))) (hv := (chA_lt (by omega))) (hx := (by omega)) (hz := (by omega)) (hy1 := (by omega)) (hy := (by omega)) (h8 := (by omega)) (f := (chF N v)) (v := (chA N v)) (x := (lowN w 600)) (z := ((lowN w 600) + (lowN (w >>> (10 &&& 31)) (1000 - (lowN w 600))))) (y := (1 + (lowN (w >>> (4 &&& 31)) 99)))) gL_change_X5_addShim rfl idX5_addShim ⟨Nat.le_of_ble_eq_true rfl, Nat.le_of_ble_eq_true rfl⟩ hP 0 rfl rfl rfl rfl hl.1 rfl (Nat.le_of_ble_eq_true rfl) dL_change_500 ⟨Nat.le_of_ble_eq_true rfl, Nat.le_of_ble_eq_true rfl⟩ hS (fr_in hD (fun q h => hA q (Nat.le_trans hS.1 h))) (fun v9 H locs hp9 hz1 hk1 hS => ?_)
                      obtain ⟨rfl, hP⟩ := hp9
                      have hP : va_P G vwCl (wMain T q a (va_up N 3 (N 3 + 1)) (sAdd N Z (nI (chF N v)) (nI (chA N v)) (nI (lowN w 600)) (nI ((lowN w 600) + (lowN (w >>> (10 &&& 31)) (1000 - (lowN w 600))))) (nI (1 + (lowN (w >>> (4 &&& 31)) 99)))) (svB sc b) (psh sc M N) (psh sc Y Z) (svC sc) tx L cu er le nb nc) H := hP
                      have hD : va_D A (wMain T q a (va_up N 3 (N 3 + 1)) (sAdd N Z (nI (chF N v)) (nI (chA N v)) (nI (lowN w 600)) (nI ((lowN w 600) + (lowN (w >>> (10 &&& 31)) (1000 - (lowN w 600))))) (nI (1 + (lowN (w >>> (4 &&& 31)) 99)))) (svB sc b) (psh sc M N) (psh sc Y Z) (svC sc) tx L cu er le nb nc) := D_perm hD sv_addr
                      have hth := hth0.kept hS.2.1
                      refine W.eq (g2 := F0 m 503 ls [.int (nI (N 3))]) rfl ?_
                      refine lv_goto (tgt := 507) hx hb dL_change_503 (by decide) ?_
                      have hv9 : chg N Z v w = ((nI (N 3)), (va_up N 3 (N 3 + 1)), (sAdd N Z (nI (chF N v)) (nI (chA N v)) (nI (lowN w 600)) (nI ((lowN w 600) + (lowN (w >>> (10 &&& 31)) (1000 - (lowN w 600))))) (nI (1 + (lowN (w >>> (4 &&& 31)) 99))))) := by rw [hg]; unfold ch9; rw [if_pos (by first | assumption | omega | exact ⟨by first | assumption | omega, by first | assumption | omega⟩ | exact ⟨by first | assumption | omega, by first | assumption | omega, by first | assumption | omega⟩)]
                      exact hret _ H _ _ _ _ _ (show some (Value.int (nI (N 3))) = some (Value.int ((chg N Z v w).1)) ∧ wst G T q a (chg N Z v w).2.1 (chg N Z v w).2.2 b tx L cu er le nb nc H from ⟨by rw [hv9], by rw [hv9]; exact wst_sv hsc hP⟩) rfl hS (Nat.le_of_ble_eq_true rfl) (Nat.le_of_ble_eq_true rfl) dL_change_507
              · refine lv_tableOut (tgt := 508) hx hb dL_change_92 (Or.inr (by decide)) (by decide) ?_
                have hg : chg N Z v w = chB N Z w := by unfold chg; rw [hcz]; rfl
                refine lv_aload_n hx hb dL_change_508 rfl (lv_at hl 2 rfl) ?_
                refine lv_iconst (v := 3) hx hb dL_change_509 (by decide) ?_
                refine rn_V S hkx hth (nX5_value l hl0 (sa := sa) (h9 := (fun q h => hA q (Nat.le_trans hS.1 h))) (hP := hP) (hwf := hwf) (hw := (by omega)) (w := 3)) gL_change_X5_value rfl idX5_value ⟨Nat.le_of_ble_eq_true rfl, Nat.le_of_ble_eq_true rfl⟩ hP 0 rfl rfl rfl rfl hl.1 rfl (Nat.le_of_ble_eq_true rfl) dL_change_510 ⟨Nat.le_of_ble_eq_true rfl, Nat.le_of_ble_eq_true rfl⟩ (fun v9 hv9 => ?_)
                subst hv9
                refine W.eq (g2 := F0 m 513 ls [.int (nI (N 3))]) rfl ?_
                refine lv_if_le (tgt := 532) hx hb dL_change_513 (by decide) (fun c_215 => ?_) (fun c_215 => ?_)
                · replace c_215 := cn_le (a := (N 3)) (b := 0) (by omega) (by omega) c_215
                  refine lv_iconst (v := 0) hx hb dL_change_532 (by decide) ?_
                  have hv9 : chg N Z v w = (0, N, Z) := by rw [hg]; unfold chB; rw [if_neg (by first | assumption | omega | exact (fun q9 => by first | omega | exact absurd q9.2 (by assumption) | exact absurd q9.2.1 (by assumption) | exact absurd q9.2.2 (by assumption)))]
                  exact hret _ H _ _ _ _ _ (show some (Value.int 0) = some (Value.int ((chg N Z v w).1)) ∧ wst G T q a (chg N Z v w).2.1 (chg N Z v w).2.2 b tx L cu er le nb nc H from ⟨by rw [hv9], by rw [hv9]; exact wst_id hsc hP⟩) rfl hS (Nat.le_of_ble_eq_true rfl) (Nat.le_of_ble_eq_true rfl) dL_change_533
                · replace c_215 := cn_nle (a := (N 3)) (b := 0) (by omega) (by omega) c_215
                  refine lv_aload_n hx hb dL_change_516 rfl (lv_at hl 2 rfl) ?_
                  refine lv_iload_n hx hb dL_change_517 rfl (lv_at hl 4 rfl) ?_
                  refine lv_aload_n hx hb dL_change_518 rfl (lv_at hl 2 rfl) ?_
                  refine lv_iconst (v := 3) hx hb dL_change_519 (by decide) ?_
                  refine rn_V S hkx hth (nX5_value l hl0 (sa := sa) (h9 := (fun q h => hA q (Nat.le_trans hS.1 h))) (hP := hP) (hwf := hwf) (hw := (by omega)) (w := 3)) gL_change_X5_value rfl idX5_value ⟨Nat.le_of_ble_eq_true rfl, Nat.le_of_ble_eq_true rfl⟩ hP 0 rfl rfl rfl rfl hl.1 rfl (Nat.le_of_ble_eq_true rfl) dL_change_520 ⟨Nat.le_of_ble_eq_true rfl, Nat.le_of_ble_eq_true rfl⟩ (fun v9 hv9 => ?_)
                  subst hv9
                  refine W.eq (g2 := F0 m 523 ls [.int (nI (N 3)), .int w, .ref (q 0)]) rfl ?_
                  refine ro_S S hkx (mL_low l (v := w) (k := (N 3)) (h0 := (by omega)) (hk := (by omega))) gL_change_L_low rfl idL_low.2 ⟨Nat.le_of_ble_eq_true rfl, Nat.le_of_ble_eq_true rfl⟩ rfl hl.1 rfl (Nat.le_of_ble_eq_true rfl) dL_change_523 ⟨Nat.le_of_ble_eq_true rfl, Nat.le_of_ble_eq_true rfl⟩ (fun r9 hr9 => ?_)
                  subst hr9
                  refine W.eq (g2 := F0 m 526 ls [.int (nI (lowN w (N 3))), .ref (q 0)]) rfl ?_
                  refine wn_V S hkx hth (nX5_dropShim l hl0 (sa := sa) (A9 := A) (h9 := (fun q h => hA q (Nat.le_trans hS.1 h))) (hP := hP) (hD := hD.weaken (fun _ _ _ _ => trivial)) (hwf := hwf) (hsc := (by omega)) (ht := (lowN_lt w (by omega))) (t := (lowN w (N 3)))) gL_change_X5_dropShim rfl idX5_dropShim ⟨Nat.le_of_ble_eq_true rfl, Nat.le_of_ble_eq_true rfl⟩ hP 0 rfl rfl rfl rfl hl.1 rfl (Nat.le_of_ble_eq_true rfl) dL_change_526 ⟨Nat.le_of_ble_eq_true rfl, Nat.le_of_ble_eq_true rfl⟩ hS (fr_in hD (fun q h => hA q (Nat.le_trans hS.1 h))) (fun v9 H locs hp9 hz1 hk1 hS => ?_)
                  obtain ⟨rfl, hP⟩ := hp9
                  have hP : va_P G vwCl (wMain T q a (va_up N 3 (N 3 - 1)) (sDel Z (lowN w (N 3)) (N 3 - 1)) (svB sc b) (psh sc M N) (psh sc Y Z) (svC sc) tx L cu er le nb nc) H := hP
                  have hD : va_D A (wMain T q a (va_up N 3 (N 3 - 1)) (sDel Z (lowN w (N 3)) (N 3 - 1)) (svB sc b) (psh sc M N) (psh sc Y Z) (svC sc) tx L cu er le nb nc) := D_perm hD sv_addr
                  have hth := hth0.kept hS.2.1
                  refine W.eq (g2 := F0 m 529 ls [.int (nI (N 3 - 1))]) rfl ?_
                  refine lv_goto (tgt := 533) hx hb dL_change_529 (by decide) ?_
                  have hv9 : chg N Z v w = ((nI (N 3 - 1)), (va_up N 3 (N 3 - 1)), (sDel Z (lowN w (N 3)) (N 3 - 1))) := by rw [hg]; unfold chB; rw [if_pos (by first | assumption | omega | exact ⟨by first | assumption | omega, by first | assumption | omega⟩ | exact ⟨by first | assumption | omega, by first | assumption | omega, by first | assumption | omega⟩)]
                  exact hret _ H _ _ _ _ _ (show some (Value.int (nI (N 3 - 1))) = some (Value.int ((chg N Z v w).1)) ∧ wst G T q a (chg N Z v w).2.1 (chg N Z v w).2.2 b tx L cu er le nb nc H from ⟨by rw [hv9], by rw [hv9]; exact wst_sv hsc hP⟩) rfl hS (Nat.le_of_ble_eq_true rfl) (Nat.le_of_ble_eq_true rfl) dL_change_533
            exact L75   _ _ hP hD hS _ (lv_sub hl [1, 2, 3, 4, 5, 6, 7, 0] rfl)
        exact L55   _ _ hP hD hS _ (lv_sub hl [1, 2, 3, 4, 5, 6, 0] rfl)
    exact L37   _ _ hP hD hS _ (lv_sub hl [3, 4, 5, 2, 1, 0] rfl)
