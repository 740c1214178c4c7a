theorem idL_isDay : yL_isDay.cls = RL ∧ yL_isDay.cls ≠ "java/lang/invoke/MethodHandle" ∧ yL_isDay.cls ≠ "java/lang/invoke/VarHandle" ∧ (parseMethodDescriptor yL_isDay.desc).map (fun d => d.parameters.length) = some 2 := by decide +kernel
set_option maxHeartbeats 4000000 in
set_option maxRecDepth 100000 in
theorem nL_isDay (l : Launch) (hl0 : l.stackTraces = false) {G : va_G} {T : Nat → ClassId} {sa : Nat → Nat} {A9 : Nat → Prop} {H : Heap} {q : Nat → Nat} {a : Nat → Nat} {N : Nat → Nat} {Z : Nat → Nat → Int32} {b : Nat → Nat → Nat} {M : Nat → Nat → Nat} {Y : Nat → Nat → Nat → Int32} {sc : Nat} {tx : Nat → Int32} {L : Nat} {cu : Nat} {er : Int32} {le : Int32} {nb : Nat → Int32} {nc : Nat} {d : Nat} (h9 : ∀ q, H.size ≤ q → A9 q) (hP : va_P G vwCl (wMain T q a N Z b M Y sc tx L cu er le nb nc) H) (hwf : wf N Z) (hd : d ≤ 999) : rn l yL_isDay wsL_isDay 11 210 3 [.ref (q 0), .int (nI d)] G T sa A9 H (fun v9 => v9 = some (.int 1)) := by
  refine rn_of (cc := cL_isDay) (maxL := 7) (ret := .boolean) (own := RL) (by decide +kernel) rfl rfl (Nat.le_of_ble_eq_true rfl) h9 ?_
  have hb2 := hwf.1
  intro p e s m below meth c Q ls S hkx hth hl hret
  obtain ⟨hx, hb, hml, hown, hts⟩ := id S
  have hl : lv_has ls 7 [(0, .ref (q 0)), (1, .int (nI d))] := hl
  refine lv_iconst (v := 0) hx hb dL_isDay_0 (by decide) ?_
  refine lv_istore_n (lv' := [(2, .int 0), (0, .ref (q 0)), (1, .int (nI d))]) hx hb dL_isDay_1 rfl hl (by decide) rfl (fun ls hl => ?_)
  refine lv_iconst (v := 0) hx hb dL_isDay_2 (by decide) ?_
  refine lv_istore_n (lv' := [(3, .int 0), (2, .int 0), (0, .ref (q 0)), (1, .int (nI d))]) hx hb dL_isDay_3 rfl hl (by decide) rfl (fun ls hl => ?_)
  refine lv_iconst (v := 1) hx hb dL_isDay_4 (by decide) ?_
  refine lv_istore (lv' := [(4, .int 1), (3, .int 0), (2, .int 0), (0, .ref (q 0)), (1, .int (nI d))]) hx hb dL_isDay_5 hl (by decide) rfl (fun ls hl => ?_)
  refine lv_iconst (v := 0) hx hb dL_isDay_7 (by decide) ?_
  refine lv_istore (lv' := [(5, .int 0), (4, .int 1), (3, .int 0), (2, .int 0), (0, .ref (q 0)), (1, .int (nI d))]) hx hb dL_isDay_8 hl (by decide) rfl (fun ls hl => ?_)
  have L10 : ∀ (fuel : Nat) (k : Nat) (y z : Int32), N 2 - k < fuel → k ≤ N 2 → y = usC Z k → z = unC N Z (nI d) k → ∀ ls : Array Slot, lv_has ls 7 [(0, .ref (q 0)), (1, .int (nI d)), (2, .int y), (3, .int z), (4, .int 1), (5, .int (nI k))] → W p l e (rmx 11 210 3) s m ([.ref (q 0), .int (nI d)] : List Value).toArray below meth c H [] 0 0 Q (F0 m 10 ls []) := by
    intro fuel
    induction fuel with
    | zero => intro k y z hm; exact absurd hm (Nat.not_lt_zero _)
    | succ fuel ih10 =>
      intro k y z hm10 hk hy hz ls hl
      refine lv_iload hx hb dL_isDay_10 (lv_at hl 5 rfl) ?_
      refine lv_aload_n hx hb dL_isDay_12 rfl (lv_at hl 0 rfl) ?_
      refine lv_iconst (v := 2) hx hb dL_isDay_13 (by decide) ?_
      refine rn_V S hkx hth (nX5_value l hl0 (sa := sa) (h9 := (fun _ h => h)) (hP := hP) (hwf := hwf) (hw := (by omega)) (w := 2)) gL_isDay_X5_value rfl idX5_value ⟨Nat.le_of_ble_eq_true rfl, Nat.le_of_ble_eq_true rfl⟩ hP 0 rfl rfl rfl rfl hl.1 rfl (Nat.le_of_ble_eq_true rfl) dL_isDay_14 ⟨Nat.le_of_ble_eq_true rfl, Nat.le_of_ble_eq_true rfl⟩ (fun v9 hv9 => ?_)
      subst hv9
      refine W.eq (g2 := F0 m 17 ls [.int (nI (N 2)), .int (nI k)]) rfl ?_
      refine lv_icmp_ge (tgt := 74) hx hb dL_isDay_17 (by decide) (fun c_1 => ?_) (fun c_1 => ?_)
      · replace c_1 := cn_le (a := (N 2)) (b := k) (by omega) (by omega) c_1
        obtain rfl : k = N 2 := by omega
        subst hy hz
        refine lv_iload_n hx hb dL_isDay_74 rfl (lv_at hl 2 rfl) ?_
        refine lv_if_ne (tgt := 82) hx hb dL_isDay_75 (by decide) (fun c_2 => ?_) (fun c_2 => ?_)
        · skip
          refine lv_iload_n hx hb dL_isDay_82 rfl (lv_at hl 2 rfl) ?_
          refine lv_iload_n hx hb dL_isDay_83 rfl (lv_at hl 3 rfl) ?_
          refine lv_isub hx hb dL_isDay_84 ?_
          refine lv_i2d hx hb dL_isDay_85 ?_
          refine lv_iload_n hx hb dL_isDay_86 rfl (lv_at hl 2 rfl) ?_
          refine lv_i2d hx hb dL_isDay_87 ?_
          refine lv_ddiv hx hb dL_isDay_88 (vf_div (by assumption)) ?_
          refine lv_dstore (lv' := [(5, .double (FP.ddiv (FP.i2d ((usC Z (N 2)) - (unC N Z (nI d) (N 2)))) (FP.i2d (usC Z (N 2))))), (0, .ref (q 0)), (1, .int (nI d)), (2, .int (usC Z (N 2))), (3, .int (unC N Z (nI d) (N 2))), (4, .int 1)]) hx hb dL_isDay_89 hl (by decide) rfl (fun ls hl => ?_)
          refine lv_iload hx hb dL_isDay_91 (lv_at hl 5 rfl) ?_
          refine lv_if_eq (tgt := 141) hx hb dL_isDay_93 (by decide) (fun c_3 => ?_) (fun c_3 => ?_)
          · exact absurd c_3 (by decide)
          · replace c_3 := cn_ne (a := 1) (b := 0) (by omega) (by omega) c_3
            refine lv_aload_n hx hb dL_isDay_96 rfl (lv_at hl 1 rfl) ?_
            refine lv_iconst (v := 5) hx hb dL_isDay_97 (by decide) ?_
            refine rn_V S hkx hth (nX5_value l hl0 (sa := sa) (h9 := (fun _ h => h)) (hP := hP) (hwf := hwf) (hw := (by omega)) (w := 5)) gL_isDay_X5_value rfl idX5_value ⟨Nat.le_of_ble_eq_true rfl, Nat.le_of_ble_eq_true rfl⟩ hP 0 rfl rfl rfl rfl hl.1 rfl (Nat.le_of_ble_eq_true rfl) dL_isDay_98 ⟨Nat.le_of_ble_eq_true rfl, Nat.le_of_ble_eq_true rfl⟩ (fun v9 hv9 => ?_)
            subst hv9
            refine W.eq (g2 := F0 m 101 ls [.int (usC Z (N 2))]) rfl ?_
            refine lv_iload_n hx hb dL_isDay_101 rfl (lv_at hl 3 rfl) ?_
            refine lv_icmp_ne (tgt := 141) hx hb dL_isDay_102 (by decide) (fun c_4 => ?_) (fun c_4 => ?_)
            · exact absurd rfl c_4
            · skip
              refine lv_aload_n hx hb dL_isDay_105 rfl (lv_at hl 1 rfl) ?_
              refine lv_iload_n hx hb dL_isDay_106 rfl (lv_at hl 2 rfl) ?_
              refine rn_V S hkx hth (nX5_share l hl0 (sa := sa) (h9 := (fun _ h => h)) (hP := hP) (hwf := hwf) (hd := (by omega)) (d := d)) gL_isDay_X5_share rfl idX5_share ⟨Nat.le_of_ble_eq_true rfl, Nat.le_of_ble_eq_true rfl⟩ hP 0 rfl rfl rfl rfl hl.1 rfl (Nat.le_of_ble_eq_true rfl) dL_isDay_107 ⟨Nat.le_of_ble_eq_true rfl, Nat.le_of_ble_eq_true rfl⟩ (fun v9 hv9 => ?_)
              subst hv9
              refine W.eq (g2 := F0 m 110 ls [.double (shr N Z (nI d))]) rfl ?_
              refine lv_dload hx hb dL_isDay_110 (lv_at hl 0 rfl) ?_
              refine lv_dcmp hx hb dL_isDay_112 ?_
              refine W.eq (g2 := F0 m 113 ls [.int 0]) (congrArg (fun z9 => F0 m 113 ls (.int z9 :: [])) (shr_ne c_2)) ?_
              refine lv_if_ne (tgt := 141) hx hb dL_isDay_113 (by decide) (fun c_5 => ?_) (fun c_5 => ?_)
              · exact absurd c_5 (by decide)
              · replace c_5 := cn_eq (a := 0) (b := 0) (by omega) (by omega) c_5
                refine lv_aload_n hx hb dL_isDay_116 rfl (lv_at hl 1 rfl) ?_
                refine lv_iload_n hx hb dL_isDay_117 rfl (lv_at hl 2 rfl) ?_
                refine rn_V S hkx hth (nX5_shimsNeeded l hl0 (sa := sa) (h9 := (fun _ h => h)) (hP := hP) (hwf := hwf) (hd := (by omega)) (d := d)) gL_isDay_X5_shimsNeeded rfl idX5_shimsNeeded ⟨Nat.le_of_ble_eq_true rfl, Nat.le_of_ble_eq_true rfl⟩ hP 0 rfl rfl rfl rfl hl.1 rfl (Nat.le_of_ble_eq_true rfl) dL_isDay_118 ⟨Nat.le_of_ble_eq_true rfl, Nat.le_of_ble_eq_true rfl⟩ (fun v9 hv9 => ?_)
                subst hv9
                refine W.eq (g2 := F0 m 121 ls [.int (prs N Z (nI d) (N 0))]) rfl ?_
                refine lv_iload_n hx hb dL_isDay_121 rfl (lv_at hl 4 rfl) ?_
                refine lv_icmp_gt (tgt := 141) hx hb dL_isDay_122 (by decide) (fun c_6 => ?_) (fun c_6 => ?_)
                · exact absurd c_6 (Int32.not_lt.mpr (prs_le hwf _))
                · have c_6n := Int32.not_lt.mp c_6
                  refine lv_iload_n hx hb dL_isDay_125 rfl (lv_at hl 4 rfl) ?_
                  refine lv_if_gt (tgt := 137) hx hb dL_isDay_126 (by decide) (fun c_7 => ?_) (fun c_7 => ?_)
                  · have c_7n := Int32.not_le.mpr c_7
                    refine lv_iconst (v := 1) hx hb dL_isDay_137 (by decide) ?_
                    refine lv_goto (tgt := 142) hx hb dL_isDay_138 (by decide) ?_
                    exact hret _ _ _ (show some (Value.int 1) = some (Value.int 1) from rfl) rfl dL_isDay_142
                  · have c_7n := Int32.not_lt.mp c_7
                    refine lv_aload_n hx hb dL_isDay_129 rfl (lv_at hl 1 rfl) ?_
                    refine lv_iload_n hx hb dL_isDay_130 rfl (lv_at hl 2 rfl) ?_
                    refine rn_V S hkx hth (nX5_stranded l hl0 (sa := sa) (h9 := (fun _ h => h)) (hP := hP) (hwf := hwf) (hd := (by omega)) (d := d)) gL_isDay_X5_stranded rfl idX5_stranded ⟨Nat.le_of_ble_eq_true rfl, Nat.le_of_ble_eq_true rfl⟩ hP 0 rfl rfl rfl rfl hl.1 rfl (Nat.le_of_ble_eq_true rfl) dL_isDay_131 ⟨Nat.le_of_ble_eq_true rfl, Nat.le_of_ble_eq_true rfl⟩ (fun v9 hv9 => ?_)
                    subst hv9
                    refine W.eq (g2 := F0 m 134 ls [.int (stU N Z (nI d) (N 2))]) rfl ?_
                    refine W.eq (g2 := F0 m 134 ls [.int 0]) (congrArg (fun z9 => F0 m 134 ls (.int z9 :: [])) (st_0 hwf _ c_7)) ?_
                    refine lv_if_ne (tgt := 141) hx hb dL_isDay_134 (by decide) (fun c_8 => ?_) (fun c_8 => ?_)
                    · exact absurd c_8 (by decide)
                    · replace c_8 := cn_eq (a := 0) (b := 0) (by omega) (by omega) c_8
                      refine lv_iconst (v := 1) hx hb dL_isDay_137 (by decide) ?_
                      refine lv_goto (tgt := 142) hx hb dL_isDay_138 (by decide) ?_
                      exact hret _ _ _ (show some (Value.int 1) = some (Value.int 1) from rfl) rfl dL_isDay_142
        · skip
          refine lv_dconst1 hx hb dL_isDay_78 ?_
          refine lv_goto (tgt := 89) hx hb dL_isDay_79 (by decide) ?_
          refine lv_dstore (lv' := [(5, .double FP.dconst1), (0, .ref (q 0)), (1, .int (nI d)), (2, .int (usC Z (N 2))), (3, .int (unC N Z (nI d) (N 2))), (4, .int 1)]) hx hb dL_isDay_89 hl (by decide) rfl (fun ls hl => ?_)
          refine lv_iload hx hb dL_isDay_91 (lv_at hl 5 rfl) ?_
          refine lv_if_eq (tgt := 141) hx hb dL_isDay_93 (by decide) (fun c_9 => ?_) (fun c_9 => ?_)
          · exact absurd c_9 (by decide)
          · replace c_9 := cn_ne (a := 1) (b := 0) (by omega) (by omega) c_9
            refine lv_aload_n hx hb dL_isDay_96 rfl (lv_at hl 1 rfl) ?_
            refine lv_iconst (v := 5) hx hb dL_isDay_97 (by decide) ?_
            refine rn_V S hkx hth (nX5_value l hl0 (sa := sa) (h9 := (fun _ h => h)) (hP := hP) (hwf := hwf) (hw := (by omega)) (w := 5)) gL_isDay_X5_value rfl idX5_value ⟨Nat.le_of_ble_eq_true rfl, Nat.le_of_ble_eq_true rfl⟩ hP 0 rfl rfl rfl rfl hl.1 rfl (Nat.le_of_ble_eq_true rfl) dL_isDay_98 ⟨Nat.le_of_ble_eq_true rfl, Nat.le_of_ble_eq_true rfl⟩ (fun v9 hv9 => ?_)
            subst hv9
            refine W.eq (g2 := F0 m 101 ls [.int (usC Z (N 2))]) rfl ?_
            refine lv_iload_n hx hb dL_isDay_101 rfl (lv_at hl 3 rfl) ?_
            refine lv_icmp_ne (tgt := 141) hx hb dL_isDay_102 (by decide) (fun c_10 => ?_) (fun c_10 => ?_)
            · exact absurd rfl c_10
            · skip
              refine lv_aload_n hx hb dL_isDay_105 rfl (lv_at hl 1 rfl) ?_
              refine lv_iload_n hx hb dL_isDay_106 rfl (lv_at hl 2 rfl) ?_
              refine rn_V S hkx hth (nX5_share l hl0 (sa := sa) (h9 := (fun _ h => h)) (hP := hP) (hwf := hwf) (hd := (by omega)) (d := d)) gL_isDay_X5_share rfl idX5_share ⟨Nat.le_of_ble_eq_true rfl, Nat.le_of_ble_eq_true rfl⟩ hP 0 rfl rfl rfl rfl hl.1 rfl (Nat.le_of_ble_eq_true rfl) dL_isDay_107 ⟨Nat.le_of_ble_eq_true rfl, Nat.le_of_ble_eq_true rfl⟩ (fun v9 hv9 => ?_)
              subst hv9
              refine W.eq (g2 := F0 m 110 ls [.double (shr N Z (nI d))]) rfl ?_
              refine lv_dload hx hb dL_isDay_110 (lv_at hl 0 rfl) ?_
              refine lv_dcmp hx hb dL_isDay_112 ?_
              refine W.eq (g2 := F0 m 113 ls [.int 0]) (congrArg (fun z9 => F0 m 113 ls (.int z9 :: [])) (shr_eq c_2)) ?_
              refine lv_if_ne (tgt := 141) hx hb dL_isDay_113 (by decide) (fun c_11 => ?_) (fun c_11 => ?_)
              · exact absurd c_11 (by decide)
              · replace c_11 := cn_eq (a := 0) (b := 0) (by omega) (by omega) c_11
                refine lv_aload_n hx hb dL_isDay_116 rfl (lv_at hl 1 rfl) ?_
                refine lv_iload_n hx hb dL_isDay_117 rfl (lv_at hl 2 rfl) ?_
                refine rn_V S hkx hth (nX5_shimsNeeded l hl0 (sa := sa) (h9 := (fun _ h => h)) (hP := hP) (hwf := hwf) (hd := (by omega)) (d := d)) gL_isDay_X5_shimsNeeded rfl idX5_shimsNeeded ⟨Nat.le_of_ble_eq_true rfl, Nat.le_of_ble_eq_true rfl⟩ hP 0 rfl rfl rfl rfl hl.1 rfl (Nat.le_of_ble_eq_true rfl) dL_isDay_118 ⟨Nat.le_of_ble_eq_true rfl, Nat.le_of_ble_eq_true rfl⟩ (fun v9 hv9 => ?_)
                subst hv9
                refine W.eq (g2 := F0 m 121 ls [.int (prs N Z (nI d) (N 0))]) rfl ?_
                refine lv_iload_n hx hb dL_isDay_121 rfl (lv_at hl 4 rfl) ?_
                refine lv_icmp_gt (tgt := 141) hx hb dL_isDay_122 (by decide) (fun c_12 => ?_) (fun c_12 => ?_)
                · exact absurd c_12 (Int32.not_lt.mpr (prs_le hwf _))
                · have c_12n := Int32.not_lt.mp c_12
                  refine lv_iload_n hx hb dL_isDay_125 rfl (lv_at hl 4 rfl) ?_
                  refine lv_if_gt (tgt := 137) hx hb dL_isDay_126 (by decide) (fun c_13 => ?_) (fun c_13 => ?_)
                  · have c_13n := Int32.not_le.mpr c_13
                    refine lv_iconst (v := 1) hx hb dL_isDay_137 (by decide) ?_
                    refine lv_goto (tgt := 142) hx hb dL_isDay_138 (by decide) ?_
                    exact hret _ _ _ (show some (Value.int 1) = some (Value.int 1) from rfl) rfl dL_isDay_142
                  · have c_13n := Int32.not_lt.mp c_13
                    refine lv_aload_n hx hb dL_isDay_129 rfl (lv_at hl 1 rfl) ?_
                    refine lv_iload_n hx hb dL_isDay_130 rfl (lv_at hl 2 rfl) ?_
                    refine rn_V S hkx hth (nX5_stranded l hl0 (sa := sa) (h9 := (fun _ h => h)) (hP := hP) (hwf := hwf) (hd := (by omega)) (d := d)) gL_isDay_X5_stranded rfl idX5_stranded ⟨Nat.le_of_ble_eq_true rfl, Nat.le_of_ble_eq_true rfl⟩ hP 0 rfl rfl rfl rfl hl.1 rfl (Nat.le_of_ble_eq_true rfl) dL_isDay_131 ⟨Nat.le_of_ble_eq_true rfl, Nat.le_of_ble_eq_true rfl⟩ (fun v9 hv9 => ?_)
                    subst hv9
                    refine W.eq (g2 := F0 m 134 ls [.int (stU N Z (nI d) (N 2))]) rfl ?_
                    refine W.eq (g2 := F0 m 134 ls [.int 0]) (congrArg (fun z9 => F0 m 134 ls (.int z9 :: [])) (st_0 hwf _ c_13)) ?_
                    refine lv_if_ne (tgt := 141) hx hb dL_isDay_134 (by decide) (fun c_14 => ?_) (fun c_14 => ?_)
                    · exact absurd c_14 (by decide)
                    · replace c_14 := cn_eq (a := 0) (b := 0) (by omega) (by omega) c_14
                      refine lv_iconst (v := 1) hx hb dL_isDay_137 (by decide) ?_
                      refine lv_goto (tgt := 142) hx hb dL_isDay_138 (by decide) ?_
                      exact hret _ _ _ (show some (Value.int 1) = some (Value.int 1) from rfl) rfl dL_isDay_142
      · replace c_1 := cn_nle (a := (N 2)) (b := k) (by omega) (by omega) c_1
        refine lv_iload_n hx hb dL_isDay_20 rfl (lv_at hl 2 rfl) ?_
        refine lv_aload_n hx hb dL_isDay_21 rfl (lv_at hl 0 rfl) ?_
        refine lv_iload hx hb dL_isDay_22 (lv_at hl 5 rfl) ?_
        refine lv_iconst (v := 1) hx hb dL_isDay_24 (by decide) ?_
        refine rn_V S hkx hth (nX5_user l hl0 (sa := sa) (h9 := (fun _ h => h)) (hP := hP) (hwf := hwf) (hu := (by omega)) (hw := (by omega)) (u := k) (w := 1)) gL_isDay_X5_user rfl idX5_user ⟨Nat.le_of_ble_eq_true rfl, Nat.le_of_ble_eq_true rfl⟩ hP 0 rfl rfl rfl rfl hl.1 rfl (Nat.le_of_ble_eq_true rfl) dL_isDay_25 ⟨Nat.le_of_ble_eq_true rfl, Nat.le_of_ble_eq_true rfl⟩ (fun v9 hv9 => ?_)
        subst hv9
        refine W.eq (g2 := F0 m 28 ls [.int (Z 6 k), .int y]) rfl ?_
        refine ro_S S hkx (mL_bits l (x := (Z 6 k))) gL_isDay_L_bits rfl idL_bits.2 ⟨Nat.le_of_ble_eq_true rfl, Nat.le_of_ble_eq_true rfl⟩ rfl hl.1 rfl (Nat.le_of_ble_eq_true rfl) dL_isDay_28 ⟨Nat.le_of_ble_eq_true rfl, Nat.le_of_ble_eq_true rfl⟩ (fun r9 hr9 => ?_)
        subst hr9
        refine W.eq (g2 := F0 m 31 ls [.int (bcM (Z 6 k) 10), .int y]) rfl ?_
        refine W.eq (g2 := F0 m 31 ls [.int (bc (Z 6 k)), .int y]) (congrArg (fun z9 => F0 m 31 ls (.int z9 :: [.int y])) (bcM_Z hwf (show k < N 2 by omega))) ?_
        refine lv_iadd hx hb dL_isDay_31 ?_
        refine lv_istore_n (lv' := [(2, .int (y + (bc (Z 6 k)))), (0, .ref (q 0)), (1, .int (nI d)), (3, .int z), (4, .int 1), (5, .int (nI k))]) hx hb dL_isDay_32 rfl hl (by decide) rfl (fun ls hl => ?_)
        refine lv_iload_n hx hb dL_isDay_33 rfl (lv_at hl 3 rfl) ?_
        refine lv_aload_n hx hb dL_isDay_34 rfl (lv_at hl 1 rfl) ?_
        refine lv_iload hx hb dL_isDay_35 (lv_at hl 5 rfl) ?_
        refine lv_iload_n hx hb dL_isDay_37 rfl (lv_at hl 2 rfl) ?_
        refine rn_V S hkx hth (nX5_missing l hl0 (sa := sa) (h9 := (fun _ h => h)) (hP := hP) (hwf := hwf) (hu := (by omega)) (hd := (by omega)) (u := k) (d := d)) gL_isDay_X5_missing rfl idX5_missing ⟨Nat.le_of_ble_eq_true rfl, Nat.le_of_ble_eq_true rfl⟩ hP 0 rfl rfl rfl rfl hl.1 rfl (Nat.le_of_ble_eq_true rfl) dL_isDay_38 ⟨Nat.le_of_ble_eq_true rfl, Nat.le_of_ble_eq_true rfl⟩ (fun v9 hv9 => ?_)
        subst hv9
        refine W.eq (g2 := F0 m 41 ls [.int (unU N Z k (nI d)), .int z]) rfl ?_
        refine ro_S S hkx (mL_bits l (x := (unU N Z k (nI d)))) gL_isDay_L_bits rfl idL_bits.2 ⟨Nat.le_of_ble_eq_true rfl, Nat.le_of_ble_eq_true rfl⟩ rfl hl.1 rfl (Nat.le_of_ble_eq_true rfl) dL_isDay_41 ⟨Nat.le_of_ble_eq_true rfl, Nat.le_of_ble_eq_true rfl⟩ (fun r9 hr9 => ?_)
        subst hr9
        refine W.eq (g2 := F0 m 44 ls [.int (bcM (unU N Z k (nI d)) 10), .int z]) rfl ?_
        refine W.eq (g2 := F0 m 44 ls [.int (bc (unU N Z k (nI d))), .int z]) (congrArg (fun z9 => F0 m 44 ls (.int z9 :: [.int z])) (bcM_uns hwf (show k < N 2 by omega) (onN Z k (nI d)) (nI d))) ?_
        refine lv_iadd hx hb dL_isDay_44 ?_
        refine lv_istore_n (lv' := [(3, .int (z + (bc (unU N Z k (nI d))))), (2, .int (y + (bc (Z 6 k)))), (0, .ref (q 0)), (1, .int (nI d)), (4, .int 1), (5, .int (nI k))]) hx hb dL_isDay_45 rfl hl (by decide) rfl (fun ls hl => ?_)
        refine lv_iload hx hb dL_isDay_46 (lv_at hl 4 rfl) ?_
        refine lv_if_eq (tgt := 65) hx hb dL_isDay_48 (by decide) (fun c_15 => ?_) (fun c_15 => ?_)
        · exact absurd c_15 (by decide)
        · replace c_15 := cn_ne (a := 1) (b := 0) (by omega) (by omega) c_15
          refine lv_aload_n hx hb dL_isDay_51 rfl (lv_at hl 2 rfl) ?_
          refine lv_iload hx hb dL_isDay_52 (lv_at hl 5 rfl) ?_
          refine lv_iload_n hx hb dL_isDay_54 rfl (lv_at hl 3 rfl) ?_
          refine rn_S S hkx hth (nL_isUser l hl0 (sa := sa) (h9 := (fun _ h => h)) (hP := hP) (hwf := hwf) (hu := (by omega)) (hd := (by omega)) (u := k) (d := d)) gL_isDay_L_isUser rfl idL_isUser.2 ⟨Nat.le_of_ble_eq_true rfl, Nat.le_of_ble_eq_true rfl⟩ rfl hl.1 rfl (Nat.le_of_ble_eq_true rfl) dL_isDay_55 ⟨Nat.le_of_ble_eq_true rfl, Nat.le_of_ble_eq_true rfl⟩ (fun v9 hv9 => ?_)
          subst hv9
          refine W.eq (g2 := F0 m 58 ls [.int 1]) rfl ?_
          refine lv_if_eq (tgt := 65) hx hb dL_isDay_58 (by decide) (fun c_16 => ?_) (fun c_16 => ?_)
          · exact absurd c_16 (by decide)
          · replace c_16 := cn_ne (a := 1) (b := 0) (by omega) (by omega) c_16
            refine lv_iconst (v := 1) hx hb dL_isDay_61 (by decide) ?_
            refine lv_goto (tgt := 66) hx hb dL_isDay_62 (by decide) ?_
            refine lv_istore (lv' := [(4, .int 1), (3, .int (z + (bc (unU N Z k (nI d))))), (2, .int (y + (bc (Z 6 k)))), (0, .ref (q 0)), (1, .int (nI d)), (5, .int (nI k))]) hx hb dL_isDay_66 hl (by decide) rfl (fun ls hl => ?_)
            refine lv_iinc (v := (nI (k + 1))) (lv' := [(5, .int (nI (k + 1))), (4, .int 1), (3, .int (z + (bc (unU N Z k (nI d))))), (2, .int (y + (bc (Z 6 k)))), (0, .ref (q 0)), (1, .int (nI d))]) hx hb dL_isDay_68 hl (k := 5) rfl (nI_inc k) (by decide) rfl (fun ls hl => ?_)
            refine lv_goto (tgt := 10) hx hb dL_isDay_71 (by decide) ?_
            exact ih10 (k + 1) (y + (bc (Z 6 k))) (z + (bc (unU N Z k (nI d)))) (by omega) (by omega) (by subst hy; rfl) (by subst hz; rfl) _ (lv_sub hl [4, 5, 3, 2, 1, 0] rfl)
  exact L10 _ 0 0 0 (Nat.lt_succ_self _) (by omega) (by rfl) (by rfl) _ (lv_sub hl [4, 5, 3, 2, 1, 0] rfl)
