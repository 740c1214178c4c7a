theorem uu_t {N : Nat → Nat} {Z : Nat → Nat → Int32} {u k : Nat} (h : ¬ unU N Z u (nI k) = 0) : uuB N Z u k = true := decide_eq_true h
theorem uu_f {N : Nat → Nat} {Z : Nat → Nat → Int32} {u k : Nat} (h : unU N Z u (nI k) = 0) : uuB N Z u k = false := decide_eq_false (not_not_intro h)
theorem shr_ne {N : Nat → Nat} {Z : Nat → Nat → Int32} {d : Int32} (h : ¬ usC Z (N 2) = 0) : Op.cmpValue (FP.dcmp (shr N Z d) (FP.ddiv (FP.i2d (usC Z (N 2) - unC N Z d (N 2))) (FP.i2d (usC Z (N 2))))) .l = 0 := by
  have e : shr N Z d = FP.ddiv (FP.i2d (usC Z (N 2) - unC N Z d (N 2))) (FP.i2d (usC Z (N 2))) := by unfold shr; rw [if_neg h]
  rw [← e]; exact shr_self N Z d
theorem shr_eq {N : Nat → Nat} {Z : Nat → Nat → Int32} {d : Int32} (h : usC Z (N 2) = 0) : Op.cmpValue (FP.dcmp (shr N Z d) FP.dconst1) .l = 0 := by
  have e : shr N Z d = FP.dconst1 := by unfold shr; rw [if_pos h]
  rw [← e]; exact shr_self N Z d
theorem idL_isFirst : yL_isFirst.cls = RL ∧ yL_isFirst.cls ≠ "java/lang/invoke/MethodHandle" ∧ yL_isFirst.cls ≠ "java/lang/invoke/VarHandle" ∧ (parseMethodDescriptor yL_isFirst.desc).map (fun d => d.parameters.length) = some 3 := by decide +kernel
set_option maxHeartbeats 4000000 in
set_option maxRecDepth 100000 in
theorem nL_isFirst (l : Launch) (hl0 : l.stackTraces = false) {G : va_G} {T : Nat → ClassId} {sa : Nat → Nat} {A9 : Nat → Prop} {H : Heap} {q : Nat → Nat} {a : Nat → Nat} {N : Nat → Nat} {Z : Nat → Nat → Int32} {b : Nat → Nat → Nat} {M : Nat → Nat → Nat} {Y : Nat → Nat → Nat → Int32} {sc : Nat} {tx : Nat → Int32} {L : Nat} {cu : Nat} {er : Int32} {le : Int32} {nb : Nat → Int32} {nc : Nat} {u : Nat} {f : Nat} (h9 : ∀ q, H.size ≤ q → A9 q) (hP : va_P G vwCl (wMain T q a N Z b M Y sc tx L cu er le nb nc) H) (hwf : wf N Z) (hu : u < N 2) (hf : f ≤ 999) : rn l yL_isFirst wsL_isFirst 10 168 2 [.ref (q 0), .int (nI u), .int (nI f)] G T sa A9 H (fun v9 => v9 = some (.int 1)) := by
  refine rn_of (cc := cL_isFirst) (maxL := 5) (ret := .boolean) (own := RL) (by decide +kernel) rfl rfl (Nat.le_of_ble_eq_true rfl) h9 ?_
  have hb2 := hwf.1
  intro p e s m below meth c Q ls S hkx hth hl hret
  obtain ⟨hx, hb, hml, hown, hts⟩ := id S
  have hl : lv_has ls 5 [(0, .ref (q 0)), (1, .int (nI u)), (2, .int (nI f))] := hl
  refine lv_aload_n hx hb dL_isFirst_0 rfl (lv_at hl 0 rfl) ?_
  refine lv_iload_n hx hb dL_isFirst_1 rfl (lv_at hl 1 rfl) ?_
  refine lv_iload_n hx hb dL_isFirst_2 rfl (lv_at hl 2 rfl) ?_
  refine rn_V S hkx hth (nX5_firstStranded l hl0 (sa := sa) (h9 := (fun _ h => h)) (hP := hP) (hwf := hwf) (hu := (by omega)) (hd := (by omega)) (u := u) (d := f)) gL_isFirst_X5_firstStranded rfl idX5_firstStranded ⟨Nat.le_of_ble_eq_true rfl, Nat.le_of_ble_eq_true rfl⟩ hP 0 rfl rfl rfl rfl hl.1 rfl (Nat.le_of_ble_eq_true rfl) dL_isFirst_3 ⟨Nat.le_of_ble_eq_true rfl, Nat.le_of_ble_eq_true rfl⟩ (fun v9 hv9 => ?_)
  subst hv9
  refine W.eq (g2 := F0 m 6 ls [.int (fstD (uuB N Z u) f (1000 - f))]) rfl ?_
  obtain ⟨y, hy⟩ : ∃ y, fstD (uuB N Z u) f (1000 - f) = y := ⟨_, rfl⟩
  refine W.eq (g2 := F0 m 6 ls [.int y]) (congrArg (fun z9 => F0 m 6 ls (.int z9 :: [])) (hy)) ?_
  refine lv_istore_n (lv' := [(3, .int y), (0, .ref (q 0)), (1, .int (nI u)), (2, .int (nI f))]) hx hb dL_isFirst_6 rfl hl (by decide) rfl (fun ls hl => ?_)
  refine lv_iload_n hx hb dL_isFirst_7 rfl (lv_at hl 3 rfl) ?_
  refine lv_istore (lv' := [(4, .int (nI f)), (3, .int y), (0, .ref (q 0)), (1, .int (nI u)), (2, .int (nI f))]) hx hb dL_isFirst_8 hl (by decide) rfl (fun ls hl => ?_)
  have L10 : ∀ (fuel : Nat) (k : Nat), f + 21 - k < fuel → f ≤ k ∧ k ≤ f + 20 ∧ k ≤ 1000 → y = fstD (uuB N Z u) k (1000 - k) → ∀ ls : Array Slot, lv_has ls 5 [(0, .ref (q 0)), (1, .int (nI u)), (2, .int (nI f)), (3, .int y), (4, .int (nI k))] → W p l e (rmx 10 168 2) s m ([.ref (q 0), .int (nI u), .int (nI f)] : List Value).toArray below meth c H [] 0 0 Q (F0 m 10 ls []) := by
    intro fuel
    induction fuel with
    | zero => intro k hm; exact absurd hm (Nat.not_lt_zero _)
    | succ fuel ih10 =>
      intro k hm10 hk he ls hl
      refine lv_iload hx hb dL_isFirst_10 (lv_at hl 4 rfl) ?_
      refine lv_iload_n hx hb dL_isFirst_12 rfl (lv_at hl 2 rfl) ?_
      refine lv_bipush (v := 20) hx hb dL_isFirst_13 (by decide) ?_
      refine lv_iadd hx hb dL_isFirst_15 ?_
      refine W.eq (g2 := F0 m 16 ls [.int (nI (f + 20)), .int (nI k)]) (congrArg (fun z9 => F0 m 16 ls (.int z9 :: [.int (nI k)])) (nI_add _ 20)) ?_
      refine lv_icmp_ge (tgt := 55) hx hb dL_isFirst_16 (by decide) (fun c_1 => ?_) (fun c_1 => ?_)
      · replace c_1 := cn_le (a := (f + 20)) (b := k) (by omega) (by omega) c_1
        rcases fstD_sp (uuB N Z u) (1000 - k) k with ⟨e9, -⟩ | ⟨j, hj1, hj2, e9, hj3, -⟩
        · skip
          obtain rfl : y = -1 := he.trans e9
          refine lv_iload_n hx hb dL_isFirst_55 rfl (lv_at hl 3 rfl) ?_
          refine lv_iconst (v := (-1)) hx hb dL_isFirst_56 (by decide) ?_
          refine lv_icmp_eq (tgt := 77) hx hb dL_isFirst_57 (by decide) (fun c_2 => ?_) (fun c_2 => ?_)
          · skip
            refine lv_iconst (v := 1) hx hb dL_isFirst_77 (by decide) ?_
            refine lv_goto (tgt := 82) hx hb dL_isFirst_78 (by decide) ?_
            exact hret _ _ _ (show some (Value.int 1) = some (Value.int 1) from rfl) rfl dL_isFirst_82
          · exact absurd c_2 (by decide)
        · skip
          obtain rfl : y = nI j := he.trans e9
          refine lv_iload_n hx hb dL_isFirst_55 rfl (lv_at hl 3 rfl) ?_
          refine lv_iconst (v := (-1)) hx hb dL_isFirst_56 (by decide) ?_
          refine lv_icmp_eq (tgt := 77) hx hb dL_isFirst_57 (by decide) (fun c_3 => ?_) (fun c_3 => ?_)
          · exact absurd c_3 (nIm1 (by omega))
          · skip
            refine lv_iload_n hx hb dL_isFirst_60 rfl (lv_at hl 3 rfl) ?_
            refine lv_iload_n hx hb dL_isFirst_61 rfl (lv_at hl 2 rfl) ?_
            refine lv_bipush (v := 20) hx hb dL_isFirst_62 (by decide) ?_
            refine lv_iadd hx hb dL_isFirst_64 ?_
            refine W.eq (g2 := F0 m 65 ls [.int (nI (f + 20)), .int (nI j)]) (congrArg (fun z9 => F0 m 65 ls (.int z9 :: [.int (nI j)])) (nI_add _ 20)) ?_
            refine lv_icmp_lt (tgt := 81) hx hb dL_isFirst_65 (by decide) (fun c_4 => ?_) (fun c_4 => ?_)
            · exfalso; replace c_4 := cn_lt (a := j) (b := f + 20) (by omega) (by omega) c_4; omega
            · replace c_4 := cn_nlt (a := j) (b := (f + 20)) (by omega) (by omega) c_4
              refine lv_aload_n hx hb dL_isFirst_68 rfl (lv_at hl 0 rfl) ?_
              refine lv_iload_n hx hb dL_isFirst_69 rfl (lv_at hl 1 rfl) ?_
              refine lv_iload_n hx hb dL_isFirst_70 rfl (lv_at hl 3 rfl) ?_
              refine rn_V S hkx hth (nX5_missing l hl0 (sa := sa) (h9 := (fun _ h => h)) (hP := hP) (hwf := hwf) (hu := (by omega)) (hd := (by omega)) (u := u) (d := j)) gL_isFirst_X5_missing rfl idX5_missing ⟨Nat.le_of_ble_eq_true rfl, Nat.le_of_ble_eq_true rfl⟩ hP 0 rfl rfl rfl rfl hl.1 rfl (Nat.le_of_ble_eq_true rfl) dL_isFirst_71 ⟨Nat.le_of_ble_eq_true rfl, Nat.le_of_ble_eq_true rfl⟩ (fun v9 hv9 => ?_)
              subst hv9
              refine W.eq (g2 := F0 m 74 ls [.int (unU N Z u (nI j))]) rfl ?_
              refine lv_if_eq (tgt := 81) hx hb dL_isFirst_74 (by decide) (fun c_5 => ?_) (fun c_5 => ?_)
              · exact absurd c_5 (of_decide_eq_true hj3)
              · skip
                refine lv_iconst (v := 1) hx hb dL_isFirst_77 (by decide) ?_
                refine lv_goto (tgt := 82) hx hb dL_isFirst_78 (by decide) ?_
                exact hret _ _ _ (show some (Value.int 1) = some (Value.int 1) from rfl) rfl dL_isFirst_82
      · replace c_1 := cn_nle (a := (f + 20)) (b := k) (by omega) (by omega) c_1
        refine lv_iload hx hb dL_isFirst_19 (lv_at hl 4 rfl) ?_
        refine lv_sipush (v := 1000) hx hb dL_isFirst_21 (by decide) ?_
        refine lv_icmp_ge (tgt := 55) hx hb dL_isFirst_24 (by decide) (fun c_6 => ?_) (fun c_6 => ?_)
        · replace c_6 := cn_le (a := 1000) (b := k) (by omega) (by omega) c_6
          rcases fstD_sp (uuB N Z u) (1000 - k) k with ⟨e9, -⟩ | ⟨j, hj1, hj2, e9, hj3, -⟩
          · skip
            obtain rfl : y = -1 := he.trans e9
            refine lv_iload_n hx hb dL_isFirst_55 rfl (lv_at hl 3 rfl) ?_
            refine lv_iconst (v := (-1)) hx hb dL_isFirst_56 (by decide) ?_
            refine lv_icmp_eq (tgt := 77) hx hb dL_isFirst_57 (by decide) (fun c_7 => ?_) (fun c_7 => ?_)
            · skip
              refine lv_iconst (v := 1) hx hb dL_isFirst_77 (by decide) ?_
              refine lv_goto (tgt := 82) hx hb dL_isFirst_78 (by decide) ?_
              exact hret _ _ _ (show some (Value.int 1) = some (Value.int 1) from rfl) rfl dL_isFirst_82
            · exact absurd c_7 (by decide)
          · skip
            obtain rfl : y = nI j := he.trans e9
            refine lv_iload_n hx hb dL_isFirst_55 rfl (lv_at hl 3 rfl) ?_
            refine lv_iconst (v := (-1)) hx hb dL_isFirst_56 (by decide) ?_
            refine lv_icmp_eq (tgt := 77) hx hb dL_isFirst_57 (by decide) (fun c_8 => ?_) (fun c_8 => ?_)
            · exact absurd c_8 (nIm1 (by omega))
            · skip
              refine lv_iload_n hx hb dL_isFirst_60 rfl (lv_at hl 3 rfl) ?_
              refine lv_iload_n hx hb dL_isFirst_61 rfl (lv_at hl 2 rfl) ?_
              refine lv_bipush (v := 20) hx hb dL_isFirst_62 (by decide) ?_
              refine lv_iadd hx hb dL_isFirst_64 ?_
              refine W.eq (g2 := F0 m 65 ls [.int (nI (f + 20)), .int (nI j)]) (congrArg (fun z9 => F0 m 65 ls (.int z9 :: [.int (nI j)])) (nI_add _ 20)) ?_
              refine lv_icmp_lt (tgt := 81) hx hb dL_isFirst_65 (by decide) (fun c_9 => ?_) (fun c_9 => ?_)
              · exfalso; replace c_9 := cn_lt (a := j) (b := f + 20) (by omega) (by omega) c_9; omega
              · replace c_9 := cn_nlt (a := j) (b := (f + 20)) (by omega) (by omega) c_9
                refine lv_aload_n hx hb dL_isFirst_68 rfl (lv_at hl 0 rfl) ?_
                refine lv_iload_n hx hb dL_isFirst_69 rfl (lv_at hl 1 rfl) ?_
                refine lv_iload_n hx hb dL_isFirst_70 rfl (lv_at hl 3 rfl) ?_
                refine rn_V S hkx hth (nX5_missing l hl0 (sa := sa) (h9 := (fun _ h => h)) (hP := hP) (hwf := hwf) (hu := (by omega)) (hd := (by omega)) (u := u) (d := j)) gL_isFirst_X5_missing rfl idX5_missing ⟨Nat.le_of_ble_eq_true rfl, Nat.le_of_ble_eq_true rfl⟩ hP 0 rfl rfl rfl rfl hl.1 rfl (Nat.le_of_ble_eq_true rfl) dL_isFirst_71 ⟨Nat.le_of_ble_eq_true rfl, Nat.le_of_ble_eq_true rfl⟩ (fun v9 hv9 => ?_)
                subst hv9
                refine W.eq (g2 := F0 m 74 ls [.int (unU N Z u (nI j))]) rfl ?_
                refine lv_if_eq (tgt := 81) hx hb dL_isFirst_74 (by decide) (fun c_10 => ?_) (fun c_10 => ?_)
                · exact absurd c_10 (of_decide_eq_true hj3)
                · skip
                  refine lv_iconst (v := 1) hx hb dL_isFirst_77 (by decide) ?_
                  refine lv_goto (tgt := 82) hx hb dL_isFirst_78 (by decide) ?_
                  exact hret _ _ _ (show some (Value.int 1) = some (Value.int 1) from rfl) rfl dL_isFirst_82
        · replace c_6 := cn_nle (a := 1000) (b := k) (by omega) (by omega) c_6
          refine lv_aload_n hx hb dL_isFirst_27 rfl (lv_at hl 0 rfl) ?_
          refine lv_iload_n hx hb dL_isFirst_28 rfl (lv_at hl 1 rfl) ?_
          refine lv_iload hx hb dL_isFirst_29 (lv_at hl 4 rfl) ?_
          refine rn_V S hkx hth (nX5_missing l hl0 (sa := sa) (h9 := (fun _ h => h)) (hP := hP) (hwf := hwf) (hu := (by omega)) (hd := (by omega)) (u := u) (d := k)) gL_isFirst_X5_missing rfl idX5_missing ⟨Nat.le_of_ble_eq_true rfl, Nat.le_of_ble_eq_true rfl⟩ hP 0 rfl rfl rfl rfl hl.1 rfl (Nat.le_of_ble_eq_true rfl) dL_isFirst_31 ⟨Nat.le_of_ble_eq_true rfl, Nat.le_of_ble_eq_true rfl⟩ (fun v9 hv9 => ?_)
          subst hv9
          refine W.eq (g2 := F0 m 34 ls [.int (unU N Z u (nI k))]) rfl ?_
          refine lv_if_eq (tgt := 49) hx hb dL_isFirst_34 (by decide) (fun c_11 => ?_) (fun c_11 => ?_)
          · skip
            refine lv_iinc (v := (nI (k + 1))) (lv' := [(4, .int (nI (k + 1))), (0, .ref (q 0)), (1, .int (nI u)), (2, .int (nI f)), (3, .int y)]) hx hb dL_isFirst_49 hl (k := 4) rfl (nI_inc k) (by decide) rfl (fun ls hl => ?_)
            refine lv_goto (tgt := 10) hx hb dL_isFirst_52 (by decide) ?_
            exact ih10 (k + 1) (by omega) (by omega) (by exact he.trans (fst_step (by omega) (uu_f (by assumption)) (fun j a b => by rw [show j = k by omega]))) _ (lv_sub hl [1, 2, 3, 4, 0] rfl)
          · skip
            refine lv_iload_n hx hb dL_isFirst_37 rfl (lv_at hl 3 rfl) ?_
            refine lv_iload hx hb dL_isFirst_38 (lv_at hl 4 rfl) ?_
            refine lv_icmp_ne (tgt := 47) hx hb dL_isFirst_40 (by decide) (fun c_12 => ?_) (fun c_12 => ?_)
            · exact absurd (he.trans (fst_hit (uu_t (by assumption)) (by omega))) c_12
            · skip
              refine lv_iconst (v := 1) hx hb dL_isFirst_43 (by decide) ?_
              refine lv_goto (tgt := 48) hx hb dL_isFirst_44 (by decide) ?_
              exact hret _ _ _ (show some (Value.int 1) = some (Value.int 1) from rfl) rfl dL_isFirst_48
  exact L10 _ f (Nat.lt_succ_self _) (by omega) (by exact hy.symm) _ (lv_sub hl [2, 3, 4, 1, 0] rfl)
theorem idL_areAlike : yL_areAlike.cls = RL ∧ yL_areAlike.cls ≠ "java/lang/invoke/MethodHandle" ∧ yL_areAlike.cls ≠ "java/lang/invoke/VarHandle" ∧ (parseMethodDescriptor yL_areAlike.desc).map (fun d => d.parameters.length) = some 2 := by decide +kernel
set_option maxHeartbeats 4000000 in
set_option maxRecDepth 100000 in
theorem nL_areAlike (l : Launch) (hl0 : l.stackTraces = false) {G : va_G} {T : Nat → ClassId} {sa : Nat → Nat} {A9 : Nat → Prop} {H : Heap} {q : Nat → Nat} {a : Nat → Nat} {N : Nat → Nat} {Z : Nat → Nat → Int32} {b : Nat → Nat → Nat} {M : Nat → Nat → Nat} {Y : Nat → Nat → Nat → Int32} {sc : Nat} {tx : Nat → Int32} {L : Nat} {cu : Nat} {er : Int32} {le : Int32} {nb : Nat → Int32} {nc : Nat} {q2 : Nat → Nat} {a2 : Nat → Nat} {b2 : Nat → Nat → Nat} {M2 : Nat → Nat → Nat} {Y2 : Nat → Nat → Nat → Int32} {sc2 : Nat} {tx2 : Nat → Int32} {L2 : Nat} {cu2 : Nat} {er2 : Int32} {le2 : Int32} {nb2 : Nat → Int32} {nc2 : Nat} (h9 : ∀ q, H.size ≤ q → A9 q) (hP : va_P G vwCl (wMain T q a N Z b M Y sc tx L cu er le nb nc) H) (hP2 : va_P G vwCl (wMain T q2 a2 N Z b2 M2 Y2 sc2 tx2 L2 cu2 er2 le2 nb2 nc2) H) (hwf : wf N Z)  : rn l yL_areAlike wsL_areAlike 10 180 2 [.ref (q 0), .ref (q2 0)] G T sa A9 H (fun v9 => v9 = some (.int 1)) := by
  refine rn_of (cc := cL_areAlike) (maxL := 5) (ret := .boolean) (own := RL) (by decide +kernel) rfl rfl (Nat.le_of_ble_eq_true rfl) h9 ?_
  have hb2 := hwf.1
  intro p e s m below meth c Q ls S hkx hth hl hret
  obtain ⟨hx, hb, hml, hown, hts⟩ := id S
  have hl : lv_has ls 5 [(0, .ref (q 0)), (1, .ref (q2 0))] := hl
  refine lv_aload_n hx hb dL_areAlike_0 rfl (lv_at hl 0 rfl) ?_
  refine lv_iconst (v := 0) hx hb dL_areAlike_1 (by decide) ?_
  refine lv_sipush (v := 999) hx hb dL_areAlike_2 (by decide) ?_
  refine rn_V S hkx hth (nX5_costs l hl0 (sa := sa) (h9 := (fun _ h => h)) (hP := hP) (hwf := hwf) (hf := (by omega)) (hw := (by omega)) (f := 0) (w := 999)) gL_areAlike_X5_costs rfl idX5_costs ⟨Nat.le_of_ble_eq_true rfl, Nat.le_of_ble_eq_true rfl⟩ hP 0 rfl rfl rfl rfl hl.1 rfl (Nat.le_of_ble_eq_true rfl) dL_areAlike_5 ⟨Nat.le_of_ble_eq_true rfl, Nat.le_of_ble_eq_true rfl⟩ (fun v9 hv9 => ?_)
  subst hv9
  refine W.eq (g2 := F0 m 8 ls [.int (smD (cAlD N Z) 0 (999 + 1 - 0))]) rfl ?_
  refine lv_aload_n hx hb dL_areAlike_8 rfl (lv_at hl 1 rfl) ?_
  refine lv_iconst (v := 0) hx hb dL_areAlike_9 (by decide) ?_
  refine lv_sipush (v := 999) hx hb dL_areAlike_10 (by decide) ?_
  refine rn_V S hkx hth (nX5_costs l hl0 (sa := sa) (h9 := (fun _ h => h)) (hP := hP2) (hwf := hwf) (hf := (by omega)) (hw := (by omega)) (f := 0) (w := 999)) gL_areAlike_X5_costs rfl idX5_costs ⟨Nat.le_of_ble_eq_true rfl, Nat.le_of_ble_eq_true rfl⟩ hP2 0 rfl rfl rfl rfl hl.1 rfl (Nat.le_of_ble_eq_true rfl) dL_areAlike_13 ⟨Nat.le_of_ble_eq_true rfl, Nat.le_of_ble_eq_true rfl⟩ (fun v9 hv9 => ?_)
  subst hv9
  refine W.eq (g2 := F0 m 16 ls [.int (smD (cAlD N Z) 0 (999 + 1 - 0)), .int (smD (cAlD N Z) 0 (999 + 1 - 0))]) rfl ?_
  refine lv_icmp_ne (tgt := 23) hx hb dL_areAlike_16 (by decide) (fun c_1 => ?_) (fun c_1 => ?_)
  · exact absurd rfl c_1
  · skip
    refine lv_iconst (v := 1) hx hb dL_areAlike_19 (by decide) ?_
    refine lv_goto (tgt := 24) hx hb dL_areAlike_20 (by decide) ?_
    refine lv_istore_n (lv' := [(2, .int 1), (0, .ref (q 0)), (1, .ref (q2 0))]) hx hb dL_areAlike_24 rfl hl (by decide) rfl (fun ls hl => ?_)
    refine lv_iconst (v := 0) hx hb dL_areAlike_25 (by decide) ?_
    refine lv_istore_n (lv' := [(3, .int 0), (2, .int 1), (0, .ref (q 0)), (1, .ref (q2 0))]) hx hb dL_areAlike_26 rfl hl (by decide) rfl (fun ls hl => ?_)
    have L27 : ∀ (fuel : Nat) (k : Nat), 8 - k < fuel → k ≤ 8 → ∀ ls : Array Slot, lv_has ls 5 [(0, .ref (q 0)), (1, .ref (q2 0)), (2, .int 1), (3, .int (nI k))] → W p l e (rmx 10 180 2) s m ([.ref (q 0), .ref (q2 0)] : List Value).toArray below meth c H [] 0 0 Q (F0 m 27 ls []) := by
      intro fuel
      induction fuel with
      | zero => intro k hm; exact absurd hm (Nat.not_lt_zero _)
      | succ fuel ih27 =>
        intro k hm27 hk ls hl
        refine lv_iload_n hx hb dL_areAlike_27 rfl (lv_at hl 3 rfl) ?_
        refine lv_bipush (v := 8) hx hb dL_areAlike_28 (by decide) ?_
        refine lv_icmp_ge (tgt := 62) hx hb dL_areAlike_30 (by decide) (fun c_2 => ?_) (fun c_2 => ?_)
        · replace c_2 := cn_le (a := 8) (b := k) (by omega) (by omega) c_2
          refine lv_iconst (v := 0) hx hb dL_areAlike_62 (by decide) ?_
          refine lv_istore_n (lv' := [(3, .int 0), (0, .ref (q 0)), (1, .ref (q2 0)), (2, .int 1)]) hx hb dL_areAlike_63 rfl hl (by decide) rfl (fun ls hl => ?_)
          have L64 : ∀ (fuel : Nat) (v : Nat), N 0 - v < fuel → v ≤ N 0 → ∀ ls : Array Slot, lv_has ls 5 [(0, .ref (q 0)), (1, .ref (q2 0)), (2, .int 1), (3, .int (nI v))] → W p l e (rmx 10 180 2) s m ([.ref (q 0), .ref (q2 0)] : List Value).toArray below meth c H [] 0 0 Q (F0 m 64 ls []) := by
            intro fuel
            induction fuel with
            | zero => intro v hm; exact absurd hm (Nat.not_lt_zero _)
            | succ fuel ih64 =>
              intro v hm64 hv ls hl
              refine lv_iload_n hx hb dL_areAlike_64 rfl (lv_at hl 3 rfl) ?_
              refine lv_aload_n hx hb dL_areAlike_65 rfl (lv_at hl 0 rfl) ?_
              refine lv_iconst (v := 0) hx hb dL_areAlike_66 (by decide) ?_
              refine rn_V S hkx hth (nX5_value l hl0 (sa := sa) (h9 := (fun _ h => h)) (hP := hP) (hwf := hwf) (hw := (by omega)) (w := 0)) gL_areAlike_X5_value rfl idX5_value ⟨Nat.le_of_ble_eq_true rfl, Nat.le_of_ble_eq_true rfl⟩ hP 0 rfl rfl rfl rfl hl.1 rfl (Nat.le_of_ble_eq_true rfl) dL_areAlike_67 ⟨Nat.le_of_ble_eq_true rfl, Nat.le_of_ble_eq_true rfl⟩ (fun v9 hv9 => ?_)
              subst hv9
              refine W.eq (g2 := F0 m 70 ls [.int (nI (N 0)), .int (nI v)]) rfl ?_
              refine lv_icmp_ge (tgt := 121) hx hb dL_areAlike_70 (by decide) (fun c_3 => ?_) (fun c_3 => ?_)
              · replace c_3 := cn_le (a := (N 0)) (b := v) (by omega) (by omega) c_3
                refine lv_iconst (v := 0) hx hb dL_areAlike_121 (by decide) ?_
                refine lv_istore_n (lv' := [(3, .int 0), (0, .ref (q 0)), (1, .ref (q2 0)), (2, .int 1)]) hx hb dL_areAlike_122 rfl hl (by decide) rfl (fun ls hl => ?_)
                have L123 : ∀ (fuel : Nat) (u : Nat), N 2 - u < fuel → u ≤ N 2 → ∀ ls : Array Slot, lv_has ls 5 [(0, .ref (q 0)), (1, .ref (q2 0)), (2, .int 1), (3, .int (nI u))] → W p l e (rmx 10 180 2) s m ([.ref (q 0), .ref (q2 0)] : List Value).toArray below meth c H [] 0 0 Q (F0 m 123 ls []) := by
                  intro fuel
                  induction fuel with
                  | zero => intro u hm; exact absurd hm (Nat.not_lt_zero _)
                  | succ fuel ih123 =>
                    intro u hm123 hu ls hl
                    refine lv_iload_n hx hb dL_areAlike_123 rfl (lv_at hl 3 rfl) ?_
                    refine lv_aload_n hx hb dL_areAlike_124 rfl (lv_at hl 0 rfl) ?_
                    refine lv_iconst (v := 2) hx hb dL_areAlike_125 (by decide) ?_
                    refine rn_V S hkx hth (nX5_value l hl0 (sa := sa) (h9 := (fun _ h => h)) (hP := hP) (hwf := hwf) (hw := (by omega)) (w := 2)) gL_areAlike_X5_value rfl idX5_value ⟨Nat.le_of_ble_eq_true rfl, Nat.le_of_ble_eq_true rfl⟩ hP 0 rfl rfl rfl rfl hl.1 rfl (Nat.le_of_ble_eq_true rfl) dL_areAlike_126 ⟨Nat.le_of_ble_eq_true rfl, Nat.le_of_ble_eq_true rfl⟩ (fun v9 hv9 => ?_)
                    subst hv9
                    refine W.eq (g2 := F0 m 129 ls [.int (nI (N 2)), .int (nI u)]) rfl ?_
                    refine lv_icmp_ge (tgt := 181) hx hb dL_areAlike_129 (by decide) (fun c_4 => ?_) (fun c_4 => ?_)
                    · replace c_4 := cn_le (a := (N 2)) (b := u) (by omega) (by omega) c_4
                      refine lv_iconst (v := 0) hx hb dL_areAlike_181 (by decide) ?_
                      refine lv_istore_n (lv' := [(3, .int 0), (0, .ref (q 0)), (1, .ref (q2 0)), (2, .int 1)]) hx hb dL_areAlike_182 rfl hl (by decide) rfl (fun ls hl => ?_)
                      have L183 : ∀ (fuel : Nat) (t : Nat), N 3 - t < fuel → t ≤ N 3 → ∀ ls : Array Slot, lv_has ls 5 [(0, .ref (q 0)), (1, .ref (q2 0)), (2, .int 1), (3, .int (nI t))] → W p l e (rmx 10 180 2) s m ([.ref (q 0), .ref (q2 0)] : List Value).toArray below meth c H [] 0 0 Q (F0 m 183 ls []) := by
                        intro fuel
                        induction fuel with
                        | zero => intro t hm; exact absurd hm (Nat.not_lt_zero _)
                        | succ fuel ih183 =>
                          intro t hm183 ht ls hl
                          refine lv_iload_n hx hb dL_areAlike_183 rfl (lv_at hl 3 rfl) ?_
                          refine lv_aload_n hx hb dL_areAlike_184 rfl (lv_at hl 0 rfl) ?_
                          refine lv_iconst (v := 3) hx hb dL_areAlike_185 (by decide) ?_
                          refine rn_V S hkx hth (nX5_value l hl0 (sa := sa) (h9 := (fun _ h => h)) (hP := hP) (hwf := hwf) (hw := (by omega)) (w := 3)) gL_areAlike_X5_value rfl idX5_value ⟨Nat.le_of_ble_eq_true rfl, Nat.le_of_ble_eq_true rfl⟩ hP 0 rfl rfl rfl rfl hl.1 rfl (Nat.le_of_ble_eq_true rfl) dL_areAlike_186 ⟨Nat.le_of_ble_eq_true rfl, Nat.le_of_ble_eq_true rfl⟩ (fun v9 hv9 => ?_)
                          subst hv9
                          refine W.eq (g2 := F0 m 189 ls [.int (nI (N 3)), .int (nI t)]) rfl ?_
                          refine lv_icmp_ge (tgt := 240) hx hb dL_areAlike_189 (by decide) (fun c_5 => ?_) (fun c_5 => ?_)
                          · replace c_5 := cn_le (a := (N 3)) (b := t) (by omega) (by omega) c_5
                            refine lv_iload_n hx hb dL_areAlike_240 rfl (lv_at hl 2 rfl) ?_
                            exact hret _ _ _ (show some (Value.int 1) = some (Value.int 1) from rfl) rfl dL_areAlike_241
                          · replace c_5 := cn_nle (a := (N 3)) (b := t) (by omega) (by omega) c_5
                            refine lv_iconst (v := 0) hx hb dL_areAlike_192 (by decide) ?_
                            refine lv_istore (lv' := [(4, .int 0), (0, .ref (q 0)), (1, .ref (q2 0)), (2, .int 1), (3, .int (nI t))]) hx hb dL_areAlike_193 hl (by decide) rfl (fun ls hl => ?_)
                            have L195 : ∀ (fuel : Nat) (g : Nat), 5 - g < fuel → g ≤ 5 → ∀ ls : Array Slot, lv_has ls 5 [(0, .ref (q 0)), (1, .ref (q2 0)), (2, .int 1), (3, .int (nI t)), (4, .int (nI g))] → W p l e (rmx 10 180 2) s m ([.ref (q 0), .ref (q2 0)] : List Value).toArray below meth c H [] 0 0 Q (F0 m 195 ls []) := by
                              intro fuel
                              induction fuel with
                              | zero => intro g hm; exact absurd hm (Nat.not_lt_zero _)
                              | succ fuel ih195 =>
                                intro g hm195 hg ls hl
                                refine lv_iload hx hb dL_areAlike_195 (lv_at hl 4 rfl) ?_
                                refine lv_iconst (v := 5) hx hb dL_areAlike_197 (by decide) ?_
                                refine lv_icmp_ge (tgt := 234) hx hb dL_areAlike_198 (by decide) (fun c_6 => ?_) (fun c_6 => ?_)
                                · replace c_6 := cn_le (a := 5) (b := g) (by omega) (by omega) c_6
                                  refine lv_iinc (v := (nI (t + 1))) (lv' := [(3, .int (nI (t + 1))), (0, .ref (q 0)), (1, .ref (q2 0)), (2, .int 1), (4, .int (nI g))]) hx hb dL_areAlike_234 hl (k := 3) rfl (nI_inc t) (by decide) rfl (fun ls hl => ?_)
                                  refine lv_goto (tgt := 183) hx hb dL_areAlike_237 (by decide) ?_
                                  exact ih183 (t + 1) (by omega) (by omega) _ (lv_sub hl [1, 2, 3, 0] rfl)
                                · replace c_6 := cn_nle (a := 5) (b := g) (by omega) (by omega) c_6
                                  refine lv_iload_n hx hb dL_areAlike_201 rfl (lv_at hl 2 rfl) ?_
                                  refine lv_if_eq (tgt := 226) hx hb dL_areAlike_202 (by decide) (fun c_7 => ?_) (fun c_7 => ?_)
                                  · exact absurd c_7 (by decide)
                                  · replace c_7 := cn_ne (a := 1) (b := 0) (by omega) (by omega) c_7
                                    refine lv_aload_n hx hb dL_areAlike_205 rfl (lv_at hl 0 rfl) ?_
                                    refine lv_iload_n hx hb dL_areAlike_206 rfl (lv_at hl 3 rfl) ?_
                                    refine lv_iload hx hb dL_areAlike_207 (lv_at hl 4 rfl) ?_
                                    refine rn_V S hkx hth (nX5_shim l hl0 (sa := sa) (h9 := (fun _ h => h)) (hP := hP) (hwf := hwf) (ht := (by omega)) (hw := (by omega)) (t := t) (w := g)) gL_areAlike_X5_shim rfl idX5_shim ⟨Nat.le_of_ble_eq_true rfl, Nat.le_of_ble_eq_true rfl⟩ hP 0 rfl rfl rfl rfl hl.1 rfl (Nat.le_of_ble_eq_true rfl) dL_areAlike_209 ⟨Nat.le_of_ble_eq_true rfl, Nat.le_of_ble_eq_true rfl⟩ (fun v9 hv9 => ?_)
                                    subst hv9
                                    refine W.eq (g2 := F0 m 212 ls [.int (Z (11 + g) t)]) rfl ?_
                                    refine lv_aload_n hx hb dL_areAlike_212 rfl (lv_at hl 1 rfl) ?_
                                    refine lv_iload_n hx hb dL_areAlike_213 rfl (lv_at hl 3 rfl) ?_
                                    refine lv_iload hx hb dL_areAlike_214 (lv_at hl 4 rfl) ?_
                                    refine rn_V S hkx hth (nX5_shim l hl0 (sa := sa) (h9 := (fun _ h => h)) (hP := hP2) (hwf := hwf) (ht := (by omega)) (hw := (by omega)) (t := t) (w := g)) gL_areAlike_X5_shim rfl idX5_shim ⟨Nat.le_of_ble_eq_true rfl, Nat.le_of_ble_eq_true rfl⟩ hP2 0 rfl rfl rfl rfl hl.1 rfl (Nat.le_of_ble_eq_true rfl) dL_areAlike_216 ⟨Nat.le_of_ble_eq_true rfl, Nat.le_of_ble_eq_true rfl⟩ (fun v9 hv9 => ?_)
                                    subst hv9
                                    refine W.eq (g2 := F0 m 219 ls [.int (Z (11 + g) t), .int (Z (11 + g) t)]) rfl ?_
                                    refine lv_icmp_ne (tgt := 226) hx hb dL_areAlike_219 (by decide) (fun c_8 => ?_) (fun c_8 => ?_)
                                    · exact absurd rfl c_8
                                    · skip
                                      refine lv_iconst (v := 1) hx hb dL_areAlike_222 (by decide) ?_
                                      refine lv_goto (tgt := 227) hx hb dL_areAlike_223 (by decide) ?_
                                      refine lv_istore_n (lv' := [(2, .int 1), (0, .ref (q 0)), (1, .ref (q2 0)), (3, .int (nI t)), (4, .int (nI g))]) hx hb dL_areAlike_227 rfl hl (by decide) rfl (fun ls hl => ?_)
                                      refine lv_iinc (v := (nI (g + 1))) (lv' := [(4, .int (nI (g + 1))), (2, .int 1), (0, .ref (q 0)), (1, .ref (q2 0)), (3, .int (nI t))]) hx hb dL_areAlike_228 hl (k := 4) rfl (nI_inc g) (by decide) rfl (fun ls hl => ?_)
                                      refine lv_goto (tgt := 195) hx hb dL_areAlike_231 (by decide) ?_
                                      exact ih195 (g + 1) (by omega) (by omega) _ (lv_sub hl [2, 3, 1, 4, 0] rfl)
                            exact L195 _ 0 (Nat.lt_succ_self _) (by omega) _ (lv_sub hl [1, 2, 3, 4, 0] rfl)
                      exact L183 _ 0 (Nat.lt_succ_self _) (by omega) _ (lv_sub hl [1, 2, 3, 0] rfl)
                    · replace c_4 := cn_nle (a := (N 2)) (b := u) (by omega) (by omega) c_4
                      refine lv_iconst (v := 0) hx hb dL_areAlike_132 (by decide) ?_
                      refine lv_istore (lv' := [(4, .int 0), (0, .ref (q 0)), (1, .ref (q2 0)), (2, .int 1), (3, .int (nI u))]) hx hb dL_areAlike_133 hl (by decide) rfl (fun ls hl => ?_)
                      have L135 : ∀ (fuel : Nat) (j : Nat), 6 - j < fuel → j ≤ 6 → ∀ ls : Array Slot, lv_has ls 5 [(0, .ref (q 0)), (1, .ref (q2 0)), (2, .int 1), (3, .int (nI u)), (4, .int (nI j))] → W p l e (rmx 10 180 2) s m ([.ref (q 0), .ref (q2 0)] : List Value).toArray below meth c H [] 0 0 Q (F0 m 135 ls []) := by
                        intro fuel
                        induction fuel with
                        | zero => intro j hm; exact absurd hm (Nat.not_lt_zero _)
                        | succ fuel ih135 =>
                          intro j hm135 hj ls hl
                          refine lv_iload hx hb dL_areAlike_135 (lv_at hl 4 rfl) ?_
                          refine lv_bipush (v := 6) hx hb dL_areAlike_137 (by decide) ?_
                          refine lv_icmp_ge (tgt := 175) hx hb dL_areAlike_139 (by decide) (fun c_9 => ?_) (fun c_9 => ?_)
                          · replace c_9 := cn_le (a := 6) (b := j) (by omega) (by omega) c_9
                            refine lv_iinc (v := (nI (u + 1))) (lv' := [(3, .int (nI (u + 1))), (0, .ref (q 0)), (1, .ref (q2 0)), (2, .int 1), (4, .int (nI j))]) hx hb dL_areAlike_175 hl (k := 3) rfl (nI_inc u) (by decide) rfl (fun ls hl => ?_)
                            refine lv_goto (tgt := 123) hx hb dL_areAlike_178 (by decide) ?_
                            exact ih123 (u + 1) (by omega) (by omega) _ (lv_sub hl [1, 2, 3, 0] rfl)
                          · replace c_9 := cn_nle (a := 6) (b := j) (by omega) (by omega) c_9
                            refine lv_iload_n hx hb dL_areAlike_142 rfl (lv_at hl 2 rfl) ?_
                            refine lv_if_eq (tgt := 167) hx hb dL_areAlike_143 (by decide) (fun c_10 => ?_) (fun c_10 => ?_)
                            · exact absurd c_10 (by decide)
                            · replace c_10 := cn_ne (a := 1) (b := 0) (by omega) (by omega) c_10
                              refine lv_aload_n hx hb dL_areAlike_146 rfl (lv_at hl 0 rfl) ?_
                              refine lv_iload_n hx hb dL_areAlike_147 rfl (lv_at hl 3 rfl) ?_
                              refine lv_iload hx hb dL_areAlike_148 (lv_at hl 4 rfl) ?_
                              refine rn_V S hkx hth (nX5_user l hl0 (sa := sa) (h9 := (fun _ h => h)) (hP := hP) (hwf := hwf) (hu := (by omega)) (hw := (by omega)) (u := u) (w := j)) gL_areAlike_X5_user rfl idX5_user ⟨Nat.le_of_ble_eq_true rfl, Nat.le_of_ble_eq_true rfl⟩ hP 0 rfl rfl rfl rfl hl.1 rfl (Nat.le_of_ble_eq_true rfl) dL_areAlike_150 ⟨Nat.le_of_ble_eq_true rfl, Nat.le_of_ble_eq_true rfl⟩ (fun v9 hv9 => ?_)
                              subst hv9
                              refine W.eq (g2 := F0 m 153 ls [.int (Z (5 + j) u)]) rfl ?_
                              refine lv_aload_n hx hb dL_areAlike_153 rfl (lv_at hl 1 rfl) ?_
                              refine lv_iload_n hx hb dL_areAlike_154 rfl (lv_at hl 3 rfl) ?_
                              refine lv_iload hx hb dL_areAlike_155 (lv_at hl 4 rfl) ?_
                              refine rn_V S hkx hth (nX5_user l hl0 (sa := sa) (h9 := (fun _ h => h)) (hP := hP2) (hwf := hwf) (hu := (by omega)) (hw := (by omega)) (u := u) (w := j)) gL_areAlike_X5_user rfl idX5_user ⟨Nat.le_of_ble_eq_true rfl, Nat.le_of_ble_eq_true rfl⟩ hP2 0 rfl rfl rfl rfl hl.1 rfl (Nat.le_of_ble_eq_true rfl) dL_areAlike_157 ⟨Nat.le_of_ble_eq_true rfl, Nat.le_of_ble_eq_true rfl⟩ (fun v9 hv9 => ?_)
                              subst hv9
                              refine W.eq (g2 := F0 m 160 ls [.int (Z (5 + j) u), .int (Z (5 + j) u)]) rfl ?_
                              refine lv_icmp_ne (tgt := 167) hx hb dL_areAlike_160 (by decide) (fun c_11 => ?_) (fun c_11 => ?_)
                              · exact absurd rfl c_11
                              · skip
                                refine lv_iconst (v := 1) hx hb dL_areAlike_163 (by decide) ?_
                                refine lv_goto (tgt := 168) hx hb dL_areAlike_164 (by decide) ?_
                                refine lv_istore_n (lv' := [(2, .int 1), (0, .ref (q 0)), (1, .ref (q2 0)), (3, .int (nI u)), (4, .int (nI j))]) hx hb dL_areAlike_168 rfl hl (by decide) rfl (fun ls hl => ?_)
                                refine lv_iinc (v := (nI (j + 1))) (lv' := [(4, .int (nI (j + 1))), (2, .int 1), (0, .ref (q 0)), (1, .ref (q2 0)), (3, .int (nI u))]) hx hb dL_areAlike_169 hl (k := 4) rfl (nI_inc j) (by decide) rfl (fun ls hl => ?_)
                                refine lv_goto (tgt := 135) hx hb dL_areAlike_172 (by decide) ?_
                                exact ih135 (j + 1) (by omega) (by omega) _ (lv_sub hl [2, 3, 1, 4, 0] rfl)
                      exact L135 _ 0 (Nat.lt_succ_self _) (by omega) _ (lv_sub hl [1, 2, 3, 4, 0] rfl)
                exact L123 _ 0 (Nat.lt_succ_self _) (by omega) _ (lv_sub hl [1, 2, 3, 0] rfl)
              · replace c_3 := cn_nle (a := (N 0)) (b := v) (by omega) (by omega) c_3
                refine lv_iconst (v := 0) hx hb dL_areAlike_73 (by decide) ?_
                refine lv_istore (lv' := [(4, .int 0), (0, .ref (q 0)), (1, .ref (q2 0)), (2, .int 1), (3, .int (nI v))]) hx hb dL_areAlike_74 hl (by decide) rfl (fun ls hl => ?_)
                have L76 : ∀ (fuel : Nat) (i : Nat), 5 - i < fuel → i ≤ 5 → ∀ ls : Array Slot, lv_has ls 5 [(0, .ref (q 0)), (1, .ref (q2 0)), (2, .int 1), (3, .int (nI v)), (4, .int (nI i))] → W p l e (rmx 10 180 2) s m ([.ref (q 0), .ref (q2 0)] : List Value).toArray below meth c H [] 0 0 Q (F0 m 76 ls []) := by
                  intro fuel
                  induction fuel with
                  | zero => intro i hm; exact absurd hm (Nat.not_lt_zero _)
                  | succ fuel ih76 =>
                    intro i hm76 hi ls hl
                    refine lv_iload hx hb dL_areAlike_76 (lv_at hl 4 rfl) ?_
                    refine lv_iconst (v := 5) hx hb dL_areAlike_78 (by decide) ?_
                    refine lv_icmp_ge (tgt := 115) hx hb dL_areAlike_79 (by decide) (fun c_12 => ?_) (fun c_12 => ?_)
                    · replace c_12 := cn_le (a := 5) (b := i) (by omega) (by omega) c_12
                      refine lv_iinc (v := (nI (v + 1))) (lv' := [(3, .int (nI (v + 1))), (0, .ref (q 0)), (1, .ref (q2 0)), (2, .int 1), (4, .int (nI i))]) hx hb dL_areAlike_115 hl (k := 3) rfl (nI_inc v) (by decide) rfl (fun ls hl => ?_)
                      refine lv_goto (tgt := 64) hx hb dL_areAlike_118 (by decide) ?_
                      exact ih64 (v + 1) (by omega) (by omega) _ (lv_sub hl [1, 2, 3, 0] rfl)
                    · replace c_12 := cn_nle (a := 5) (b := i) (by omega) (by omega) c_12
                      refine lv_iload_n hx hb dL_areAlike_82 rfl (lv_at hl 2 rfl) ?_
                      refine lv_if_eq (tgt := 107) hx hb dL_areAlike_83 (by decide) (fun c_13 => ?_) (fun c_13 => ?_)
                      · exact absurd c_13 (by decide)
                      · replace c_13 := cn_ne (a := 1) (b := 0) (by omega) (by omega) c_13
                        refine lv_aload_n hx hb dL_areAlike_86 rfl (lv_at hl 0 rfl) ?_
                        refine lv_iload_n hx hb dL_areAlike_87 rfl (lv_at hl 3 rfl) ?_
                        refine lv_iload hx hb dL_areAlike_88 (lv_at hl 4 rfl) ?_
                        refine rn_V S hkx hth (nX5_version l hl0 (sa := sa) (h9 := (fun _ h => h)) (hP := hP) (hwf := hwf) (hv := (by omega)) (hw := (by omega)) (v := v) (w := i)) gL_areAlike_X5_version rfl idX5_version ⟨Nat.le_of_ble_eq_true rfl, Nat.le_of_ble_eq_true rfl⟩ hP 0 rfl rfl rfl rfl hl.1 rfl (Nat.le_of_ble_eq_true rfl) dL_areAlike_90 ⟨Nat.le_of_ble_eq_true rfl, Nat.le_of_ble_eq_true rfl⟩ (fun v9 hv9 => ?_)
                        subst hv9
                        refine W.eq (g2 := F0 m 93 ls [.int (ofV N Z v i)]) rfl ?_
                        refine lv_aload_n hx hb dL_areAlike_93 rfl (lv_at hl 1 rfl) ?_
                        refine lv_iload_n hx hb dL_areAlike_94 rfl (lv_at hl 3 rfl) ?_
                        refine lv_iload hx hb dL_areAlike_95 (lv_at hl 4 rfl) ?_
                        refine rn_V S hkx hth (nX5_version l hl0 (sa := sa) (h9 := (fun _ h => h)) (hP := hP2) (hwf := hwf) (hv := (by omega)) (hw := (by omega)) (v := v) (w := i)) gL_areAlike_X5_version rfl idX5_version ⟨Nat.le_of_ble_eq_true rfl, Nat.le_of_ble_eq_true rfl⟩ hP2 0 rfl rfl rfl rfl hl.1 rfl (Nat.le_of_ble_eq_true rfl) dL_areAlike_97 ⟨Nat.le_of_ble_eq_true rfl, Nat.le_of_ble_eq_true rfl⟩ (fun v9 hv9 => ?_)
                        subst hv9
                        refine W.eq (g2 := F0 m 100 ls [.int (ofV N Z v i), .int (ofV N Z v i)]) rfl ?_
                        refine lv_icmp_ne (tgt := 107) hx hb dL_areAlike_100 (by decide) (fun c_14 => ?_) (fun c_14 => ?_)
                        · exact absurd rfl c_14
                        · skip
                          refine lv_iconst (v := 1) hx hb dL_areAlike_103 (by decide) ?_
                          refine lv_goto (tgt := 108) hx hb dL_areAlike_104 (by decide) ?_
                          refine lv_istore_n (lv' := [(2, .int 1), (0, .ref (q 0)), (1, .ref (q2 0)), (3, .int (nI v)), (4, .int (nI i))]) hx hb dL_areAlike_108 rfl hl (by decide) rfl (fun ls hl => ?_)
                          refine lv_iinc (v := (nI (i + 1))) (lv' := [(4, .int (nI (i + 1))), (2, .int 1), (0, .ref (q 0)), (1, .ref (q2 0)), (3, .int (nI v))]) hx hb dL_areAlike_109 hl (k := 4) rfl (nI_inc i) (by decide) rfl (fun ls hl => ?_)
                          refine lv_goto (tgt := 76) hx hb dL_areAlike_112 (by decide) ?_
                          exact ih76 (i + 1) (by omega) (by omega) _ (lv_sub hl [2, 3, 1, 4, 0] rfl)
                exact L76 _ 0 (Nat.lt_succ_self _) (by omega) _ (lv_sub hl [1, 2, 3, 4, 0] rfl)
          exact L64 _ 0 (Nat.lt_succ_self _) (by omega) _ (lv_sub hl [1, 2, 3, 0] rfl)
        · replace c_2 := cn_nle (a := 8) (b := k) (by omega) (by omega) c_2
          refine lv_iload_n hx hb dL_areAlike_33 rfl (lv_at hl 2 rfl) ?_
          refine lv_if_eq (tgt := 54) hx hb dL_areAlike_34 (by decide) (fun c_15 => ?_) (fun c_15 => ?_)
          · exact absurd c_15 (by decide)
          · replace c_15 := cn_ne (a := 1) (b := 0) (by omega) (by omega) c_15
            refine lv_aload_n hx hb dL_areAlike_37 rfl (lv_at hl 0 rfl) ?_
            refine lv_iload_n hx hb dL_areAlike_38 rfl (lv_at hl 3 rfl) ?_
            refine rn_V S hkx hth (nX5_value l hl0 (sa := sa) (h9 := (fun _ h => h)) (hP := hP) (hwf := hwf) (hw := (by omega)) (w := k)) gL_areAlike_X5_value rfl idX5_value ⟨Nat.le_of_ble_eq_true rfl, Nat.le_of_ble_eq_true rfl⟩ hP 0 rfl rfl rfl rfl hl.1 rfl (Nat.le_of_ble_eq_true rfl) dL_areAlike_39 ⟨Nat.le_of_ble_eq_true rfl, Nat.le_of_ble_eq_true rfl⟩ (fun v9 hv9 => ?_)
            subst hv9
            refine W.eq (g2 := F0 m 42 ls [.int (nmb N Z k)]) rfl ?_
            refine lv_aload_n hx hb dL_areAlike_42 rfl (lv_at hl 1 rfl) ?_
            refine lv_iload_n hx hb dL_areAlike_43 rfl (lv_at hl 3 rfl) ?_
            refine rn_V S hkx hth (nX5_value l hl0 (sa := sa) (h9 := (fun _ h => h)) (hP := hP2) (hwf := hwf) (hw := (by omega)) (w := k)) gL_areAlike_X5_value rfl idX5_value ⟨Nat.le_of_ble_eq_true rfl, Nat.le_of_ble_eq_true rfl⟩ hP2 0 rfl rfl rfl rfl hl.1 rfl (Nat.le_of_ble_eq_true rfl) dL_areAlike_44 ⟨Nat.le_of_ble_eq_true rfl, Nat.le_of_ble_eq_true rfl⟩ (fun v9 hv9 => ?_)
            subst hv9
            refine W.eq (g2 := F0 m 47 ls [.int (nmb N Z k), .int (nmb N Z k)]) rfl ?_
            refine lv_icmp_ne (tgt := 54) hx hb dL_areAlike_47 (by decide) (fun c_16 => ?_) (fun c_16 => ?_)
            · exact absurd rfl c_16
            · skip
              refine lv_iconst (v := 1) hx hb dL_areAlike_50 (by decide) ?_
              refine lv_goto (tgt := 55) hx hb dL_areAlike_51 (by decide) ?_
              refine lv_istore_n (lv' := [(2, .int 1), (0, .ref (q 0)), (1, .ref (q2 0)), (3, .int (nI k))]) hx hb dL_areAlike_55 rfl hl (by decide) rfl (fun ls hl => ?_)
              refine lv_iinc (v := (nI (k + 1))) (lv' := [(3, .int (nI (k + 1))), (2, .int 1), (0, .ref (q 0)), (1, .ref (q2 0))]) hx hb dL_areAlike_56 hl (k := 3) rfl (nI_inc k) (by decide) rfl (fun ls hl => ?_)
              refine lv_goto (tgt := 27) hx hb dL_areAlike_59 (by decide) ?_
              exact ih27 (k + 1) (by omega) (by omega) _ (lv_sub hl [2, 3, 1, 0] rfl)
    exact L27 _ 0 (Nat.lt_succ_self _) (by omega) _ (lv_sub hl [2, 3, 1, 0] rfl)
