theorem idL_isUser : yL_isUser.cls = RL ∧ yL_isUser.cls ≠ "java/lang/invoke/MethodHandle" ∧ yL_isUser.cls ≠ "java/lang/invoke/VarHandle" ∧ (parseMethodDescriptor yL_isUser.desc).map (fun d => d.parameters.length) = some 3 := by decide +kernel
set_option maxHeartbeats 4000000 in
set_option maxRecDepth 100000 in
theorem nL_isUser (l : Launch) (hl0 : l.stackTraces = false) {G : va_G} {T : Nat → ClassId} {sa : Nat → Nat} {A9 : Nat → Prop} {H : Heap} {q : Nat → Nat} {a : Nat → Nat} {N : Nat → Nat} {Z : Nat → Nat → Int32} {b : Nat → Nat → Nat} {M : Nat → Nat → Nat} {Y : Nat → Nat → Nat → Int32} {sc : Nat} {tx : Nat → Int32} {L : Nat} {cu : Nat} {er : Int32} {le : Int32} {nb : Nat → Int32} {nc : Nat} {u : Nat} {d : Nat} (h9 : ∀ q, H.size ≤ q → A9 q) (hP : va_P G vwCl (wMain T q a N Z b M Y sc tx L cu er le nb nc) H) (hwf : wf N Z) (hu : u < N 2) (hd : d ≤ 999) : rn l yL_isUser wsL_isUser 10 180 3 [.ref (q 0), .int (nI u), .int (nI d)] G T sa A9 H (fun v9 => v9 = some (.int 1)) := by
  refine rn_of (cc := cL_isUser) (maxL := 11) (ret := .boolean) (own := RL) (by decide +kernel) rfl rfl (Nat.le_of_ble_eq_true rfl) h9 ?_
  have hb2 := hwf.1
  intro p e s m below meth c Q ls S hkx hth hl hret
  obtain ⟨hx, hb, hml, hown, hts⟩ := id S
  have hl : lv_has ls 11 [(0, .ref (q 0)), (1, .int (nI u)), (2, .int (nI d))] := hl
  have h6 := hwf.2.2.2.2.2.2 u hu
  refine lv_aload_n hx hb dL_isUser_0 rfl (lv_at hl 0 rfl) ?_
  refine lv_iload_n hx hb dL_isUser_1 rfl (lv_at hl 1 rfl) ?_
  refine lv_iload_n hx hb dL_isUser_2 rfl (lv_at hl 2 rfl) ?_
  refine rn_V S hkx hth (nX5_versionOn l hl0 (sa := sa) (h9 := (fun _ h => h)) (hP := hP) (hwf := hwf) (hu := (by omega)) (hd := (by omega)) (u := u) (d := d)) gL_isUser_X5_versionOn rfl idX5_versionOn ⟨Nat.le_of_ble_eq_true rfl, Nat.le_of_ble_eq_true rfl⟩ hP 0 rfl rfl rfl rfl hl.1 rfl (Nat.le_of_ble_eq_true rfl) dL_isUser_3 ⟨Nat.le_of_ble_eq_true rfl, Nat.le_of_ble_eq_true rfl⟩ (fun v9 hv9 => ?_)
  subst hv9
  refine W.eq (g2 := F0 m 6 ls [.int (nI (onN Z u (nI d)))]) rfl ?_
  obtain ⟨o, ho⟩ : ∃ o, onN Z u (nI d) = o := ⟨_, rfl⟩
  have ho9 : o < N 0 := ho ▸ (on_spec hwf hu (nI d)).2
  refine W.eq (g2 := F0 m 6 ls [.int (nI o)]) (congrArg (fun z9 => F0 m 6 ls (.int z9 :: [])) (congrArg nI ho)) ?_
  refine lv_istore_n (lv' := [(3, .int (nI o)), (0, .ref (q 0)), (1, .int (nI u)), (2, .int (nI d))]) hx hb dL_isUser_6 rfl hl (by decide) rfl (fun ls hl => ?_)
  refine lv_iconst (v := 0) hx hb dL_isUser_7 (by decide) ?_
  refine lv_istore (lv' := [(4, .int 0), (3, .int (nI o)), (0, .ref (q 0)), (1, .int (nI u)), (2, .int (nI d))]) hx hb dL_isUser_8 hl (by decide) rfl (fun ls hl => ?_)
  refine lv_iconst (v := 1) hx hb dL_isUser_10 (by decide) ?_
  refine lv_istore (lv' := [(5, .int 1), (4, .int 0), (3, .int (nI o)), (0, .ref (q 0)), (1, .int (nI u)), (2, .int (nI d))]) hx hb dL_isUser_11 hl (by decide) rfl (fun ls hl => ?_)
  refine lv_iconst (v := 0) hx hb dL_isUser_13 (by decide) ?_
  refine lv_istore (lv' := [(6, .int 0), (5, .int 1), (4, .int 0), (3, .int (nI o)), (0, .ref (q 0)), (1, .int (nI u)), (2, .int (nI d))]) hx hb dL_isUser_14 hl (by decide) rfl (fun ls hl => ?_)
  have L16 : ∀ (fuel : Nat) (k : Nat) (y : Int32), N 1 - k < fuel → k ≤ N 1 → y = msU N Z (Z 6 u) o (nI d) k → ∀ ls : Array Slot, lv_has ls 11 [(0, .ref (q 0)), (1, .int (nI u)), (2, .int (nI d)), (3, .int (nI o)), (4, .int y), (5, .int 1), (6, .int (nI k))] → W p l e (rmx 10 180 3) s m ([.ref (q 0), .int (nI u), .int (nI d)] : List Value).toArray below meth c H [] 0 0 Q (F0 m 16 ls []) := by
    intro fuel
    induction fuel with
    | zero => intro k y hm; exact absurd hm (Nat.not_lt_zero _)
    | succ fuel ih16 =>
      intro k y hm16 hk hy ls hl
      refine lv_iload hx hb dL_isUser_16 (lv_at hl 6 rfl) ?_
      refine lv_aload_n hx hb dL_isUser_18 rfl (lv_at hl 0 rfl) ?_
      refine lv_iconst (v := 1) hx hb dL_isUser_19 (by decide) ?_
      refine rn_V S hkx hth (nX5_value l hl0 (sa := sa) (h9 := (fun _ h => h)) (hP := hP) (hwf := hwf) (hw := (by omega)) (w := 1)) gL_isUser_X5_value rfl idX5_value ⟨Nat.le_of_ble_eq_true rfl, Nat.le_of_ble_eq_true rfl⟩ hP 0 rfl rfl rfl rfl hl.1 rfl (Nat.le_of_ble_eq_true rfl) dL_isUser_20 ⟨Nat.le_of_ble_eq_true rfl, Nat.le_of_ble_eq_true rfl⟩ (fun v9 hv9 => ?_)
      subst hv9
      refine W.eq (g2 := F0 m 23 ls [.int (nI (N 1)), .int (nI k)]) rfl ?_
      refine lv_icmp_ge (tgt := 239) hx hb dL_isUser_23 (by decide) (fun c_1 => ?_) (fun c_1 => ?_)
      · replace c_1 := cn_le (a := (N 1)) (b := k) (by omega) (by omega) c_1
        obtain rfl : k = N 1 := by omega
        have hy2 : y = unU N Z u (nI d) := by rw [hy, msU_uns hwf h6.1 h6.2, ← ho]; rfl
        clear hy; subst hy2
        refine lv_iload hx hb dL_isUser_239 (lv_at hl 5 rfl) ?_
        refine lv_if_eq (tgt := 281) hx hb dL_isUser_241 (by decide) (fun c_2 => ?_) (fun c_2 => ?_)
        · exact absurd c_2 (by decide)
        · replace c_2 := cn_ne (a := 1) (b := 0) (by omega) (by omega) c_2
          refine lv_aload_n hx hb dL_isUser_244 rfl (lv_at hl 0 rfl) ?_
          refine lv_iload_n hx hb dL_isUser_245 rfl (lv_at hl 1 rfl) ?_
          refine lv_iload_n hx hb dL_isUser_246 rfl (lv_at hl 2 rfl) ?_
          refine rn_V S hkx hth (nX5_missing l hl0 (sa := sa) (h9 := (fun _ h => h)) (hP := hP) (hwf := hwf) (hu := (by omega)) (hd := (by omega)) (u := u) (d := d)) gL_isUser_X5_missing rfl idX5_missing ⟨Nat.le_of_ble_eq_true rfl, Nat.le_of_ble_eq_true rfl⟩ hP 0 rfl rfl rfl rfl hl.1 rfl (Nat.le_of_ble_eq_true rfl) dL_isUser_247 ⟨Nat.le_of_ble_eq_true rfl, Nat.le_of_ble_eq_true rfl⟩ (fun v9 hv9 => ?_)
          subst hv9
          refine W.eq (g2 := F0 m 250 ls [.int (unU N Z u (nI d))]) rfl ?_
          refine lv_iload hx hb dL_isUser_250 (lv_at hl 4 rfl) ?_
          refine lv_icmp_ne (tgt := 281) hx hb dL_isUser_252 (by decide) (fun c_3 => ?_) (fun c_3 => ?_)
          · exact absurd rfl c_3
          · skip
            refine lv_aload_n hx hb dL_isUser_255 rfl (lv_at hl 0 rfl) ?_
            refine lv_iload_n hx hb dL_isUser_256 rfl (lv_at hl 2 rfl) ?_
            refine rn_V S hkx hth (nX5_stranded l hl0 (sa := sa) (h9 := (fun _ h => h)) (hP := hP) (hwf := hwf) (hd := (by omega)) (d := d)) gL_isUser_X5_stranded rfl idX5_stranded ⟨Nat.le_of_ble_eq_true rfl, Nat.le_of_ble_eq_true rfl⟩ hP 0 rfl rfl rfl rfl hl.1 rfl (Nat.le_of_ble_eq_true rfl) dL_isUser_257 ⟨Nat.le_of_ble_eq_true rfl, Nat.le_of_ble_eq_true rfl⟩ (fun v9 hv9 => ?_)
            subst hv9
            refine W.eq (g2 := F0 m 260 ls [.int (stU N Z (nI d) (N 2))]) rfl ?_
            refine lv_iload_n hx hb dL_isUser_260 rfl (lv_at hl 1 rfl) ?_
            refine lv_ishr hx hb dL_isUser_261 ?_
            refine lv_iconst (v := 1) hx hb dL_isUser_262 (by decide) ?_
            refine lv_iand hx hb dL_isUser_263 ?_
            by_cases hq : unU N Z u (nI d) = 0
            · skip
              refine W.eq (g2 := F0 m 264 ls [.int 0]) (congrArg (fun z9 => F0 m 264 ls (.int z9 :: [])) ((st_u hwf hu _).trans (if_pos hq))) ?_
              refine lv_iload hx hb dL_isUser_264 (lv_at hl 4 rfl) ?_
              refine lv_if_ne (tgt := 273) hx hb dL_isUser_266 (by decide) (fun c_4 => ?_) (fun c_4 => ?_)
              · exact absurd hq c_4
              · skip
                refine lv_iconst (v := 0) hx hb dL_isUser_269 (by decide) ?_
                refine lv_goto (tgt := 274) hx hb dL_isUser_270 (by decide) ?_
                refine lv_icmp_ne (tgt := 281) hx hb dL_isUser_274 (by decide) (fun c_5 => ?_) (fun c_5 => ?_)
                · exact absurd c_5 (by decide)
                · replace c_5 := cn_eq (a := 0) (b := 0) (by omega) (by omega) c_5
                  refine lv_iconst (v := 1) hx hb dL_isUser_277 (by decide) ?_
                  refine lv_goto (tgt := 282) hx hb dL_isUser_278 (by decide) ?_
                  exact hret _ _ _ (show some (Value.int 1) = some (Value.int 1) from rfl) rfl dL_isUser_282
            · skip
              refine W.eq (g2 := F0 m 264 ls [.int 1]) (congrArg (fun z9 => F0 m 264 ls (.int z9 :: [])) ((st_u hwf hu _).trans (if_neg hq))) ?_
              refine lv_iload hx hb dL_isUser_264 (lv_at hl 4 rfl) ?_
              refine lv_if_ne (tgt := 273) hx hb dL_isUser_266 (by decide) (fun c_6 => ?_) (fun c_6 => ?_)
              · skip
                refine lv_iconst (v := 1) hx hb dL_isUser_273 (by decide) ?_
                refine lv_icmp_ne (tgt := 281) hx hb dL_isUser_274 (by decide) (fun c_7 => ?_) (fun c_7 => ?_)
                · exact absurd c_7 (by decide)
                · replace c_7 := cn_eq (a := 1) (b := 1) (by omega) (by omega) c_7
                  refine lv_iconst (v := 1) hx hb dL_isUser_277 (by decide) ?_
                  refine lv_goto (tgt := 282) hx hb dL_isUser_278 (by decide) ?_
                  exact hret _ _ _ (show some (Value.int 1) = some (Value.int 1) from rfl) rfl dL_isUser_282
              · exact absurd c_6 hq
      · replace c_1 := cn_nle (a := (N 1)) (b := k) (by omega) (by omega) c_1
        refine lv_aload_n hx hb dL_isUser_26 rfl (lv_at hl 0 rfl) ?_
        refine lv_iload_n hx hb dL_isUser_27 rfl (lv_at hl 1 rfl) ?_
        refine lv_iload hx hb dL_isUser_28 (lv_at hl 6 rfl) ?_
        refine lv_iload_n hx hb dL_isUser_30 rfl (lv_at hl 2 rfl) ?_
        refine rn_V S hkx hth (nX5_served l hl0 (sa := sa) (h9 := (fun _ h => h)) (hP := hP) (hwf := hwf) (hu := (by omega)) (hf := (by omega)) (hd := (by omega)) (u := u) (f := k) (d := d)) gL_isUser_X5_served rfl idX5_served ⟨Nat.le_of_ble_eq_true rfl, Nat.le_of_ble_eq_true rfl⟩ hP 0 rfl rfl rfl rfl hl.1 rfl (Nat.le_of_ble_eq_true rfl) dL_isUser_31 ⟨Nat.le_of_ble_eq_true rfl, Nat.le_of_ble_eq_true rfl⟩ (fun v9 hv9 => ?_)
        subst hv9
        refine W.eq (g2 := F0 m 34 ls [.int (hsv N Z u (nI k) (nI d))]) rfl ?_
        obtain ⟨w, hw⟩ : ∃ w, hsv N Z u (nI k) (nI d) = w := ⟨_, rfl⟩
        have hw2 : w = if cnt1 (Z 6 u) (nI k) = true then sv4 N Z o k (nI d) else 5 := by rw [← hw, hsv_sv hwf u (by omega) (nI d), ho]
        refine W.eq (g2 := F0 m 34 ls [.int w]) (congrArg (fun z9 => F0 m 34 ls (.int z9 :: [])) (hw)) ?_
        refine lv_istore (lv' := [(7, .int w), (0, .ref (q 0)), (1, .int (nI u)), (2, .int (nI d)), (3, .int (nI o)), (4, .int y), (5, .int 1), (6, .int (nI k))]) hx hb dL_isUser_34 hl (by decide) rfl (fun ls hl => ?_)
        refine lv_aload_n hx hb dL_isUser_36 rfl (lv_at hl 1 rfl) ?_
        refine lv_iload_n hx hb dL_isUser_37 rfl (lv_at hl 2 rfl) ?_
        refine lv_iconst (v := 1) hx hb dL_isUser_38 (by decide) ?_
        refine rn_V S hkx hth (nX5_user l hl0 (sa := sa) (h9 := (fun _ h => h)) (hP := hP) (hwf := hwf) (hu := (by omega)) (hw := (by omega)) (u := u) (w := 1)) gL_isUser_X5_user rfl idX5_user ⟨Nat.le_of_ble_eq_true rfl, Nat.le_of_ble_eq_true rfl⟩ hP 0 rfl rfl rfl rfl hl.1 rfl (Nat.le_of_ble_eq_true rfl) dL_isUser_39 ⟨Nat.le_of_ble_eq_true rfl, Nat.le_of_ble_eq_true rfl⟩ (fun v9 hv9 => ?_)
        subst hv9
        refine W.eq (g2 := F0 m 42 ls [.int (Z 6 u)]) rfl ?_
        refine lv_iload hx hb dL_isUser_42 (lv_at hl 7 rfl) ?_
        refine lv_ishr hx hb dL_isUser_44 ?_
        refine lv_iconst (v := 1) hx hb dL_isUser_45 (by decide) ?_
        refine lv_iand hx hb dL_isUser_46 ?_
        cases hU : cnt1 (Z 6 u) (nI k)
        · skip
          refine W.eq (g2 := F0 m 47 ls [.int 0]) (congrArg (fun z9 => F0 m 47 ls (.int z9 :: [])) ((and_cn (by omega)).trans (by rw [hU]; rfl))) ?_
          refine lv_iconst (v := 1) hx hb dL_isUser_47 (by decide) ?_
          refine lv_icmp_ne (tgt := 55) hx hb dL_isUser_48 (by decide) (fun c_8 => ?_) (fun c_8 => ?_)
          · replace c_8 := cn_ne (a := 0) (b := 1) (by omega) (by omega) c_8
            refine lv_iconst (v := 0) hx hb dL_isUser_55 (by decide) ?_
            refine lv_istore (lv' := [(8, .int 0), (7, .int w), (0, .ref (q 0)), (1, .int (nI u)), (2, .int (nI d)), (3, .int (nI o)), (4, .int y), (5, .int 1), (6, .int (nI k))]) hx hb dL_isUser_56 hl (by decide) rfl (fun ls hl => ?_)
            refine lv_iload_n hx hb dL_isUser_58 rfl (lv_at hl 4 rfl) ?_
            refine lv_aload_n hx hb dL_isUser_59 rfl (lv_at hl 2 rfl) ?_
            refine lv_iload_n hx hb dL_isUser_60 rfl (lv_at hl 5 rfl) ?_
            refine lv_iconst (v := 0) hx hb dL_isUser_61 (by decide) ?_
            refine rn_V S hkx hth (nX5_version l hl0 (sa := sa) (h9 := (fun _ h => h)) (hP := hP) (hwf := hwf) (hv := (by omega)) (hw := (by omega)) (v := o) (w := 0)) gL_isUser_X5_version rfl idX5_version ⟨Nat.le_of_ble_eq_true rfl, Nat.le_of_ble_eq_true rfl⟩ hP 0 rfl rfl rfl rfl hl.1 rfl (Nat.le_of_ble_eq_true rfl) dL_isUser_62 ⟨Nat.le_of_ble_eq_true rfl, Nat.le_of_ble_eq_true rfl⟩ (fun v9 hv9 => ?_)
            subst hv9
            refine W.eq (g2 := F0 m 65 ls [.int (Z 1 o), .int (nI d)]) rfl ?_
            refine lv_icmp_lt (tgt := 82) hx hb dL_isUser_65 (by decide) (fun c_9 => ?_) (fun c_9 => ?_)
            · have c_9n := Int32.not_le.mpr c_9
              refine lv_iconst (v := 0) hx hb dL_isUser_82 (by decide) ?_
              refine lv_istore (lv' := [(9, .int 0), (8, .int 0), (7, .int w), (0, .ref (q 0)), (1, .int (nI u)), (2, .int (nI d)), (3, .int (nI o)), (4, .int y), (5, .int 1), (6, .int (nI k))]) hx hb dL_isUser_83 hl (by decide) rfl (fun ls hl => ?_)
              refine lv_aload_n hx hb dL_isUser_85 rfl (lv_at hl 3 rfl) ?_
              refine lv_iload_n hx hb dL_isUser_86 rfl (lv_at hl 6 rfl) ?_
              refine lv_iconst (v := 2) hx hb dL_isUser_87 (by decide) ?_
              refine rn_V S hkx hth (nX5_version l hl0 (sa := sa) (h9 := (fun _ h => h)) (hP := hP) (hwf := hwf) (hv := (by omega)) (hw := (by omega)) (v := o) (w := 2)) gL_isUser_X5_version rfl idX5_version ⟨Nat.le_of_ble_eq_true rfl, Nat.le_of_ble_eq_true rfl⟩ hP 0 rfl rfl rfl rfl hl.1 rfl (Nat.le_of_ble_eq_true rfl) dL_isUser_88 ⟨Nat.le_of_ble_eq_true rfl, Nat.le_of_ble_eq_true rfl⟩ (fun v9 hv9 => ?_)
              subst hv9
              refine W.eq (g2 := F0 m 91 ls [.int (Z 4 o)]) rfl ?_
              refine lv_iload hx hb dL_isUser_91 (lv_at hl 9 rfl) ?_
              refine lv_ishr hx hb dL_isUser_93 ?_
              refine lv_iconst (v := 1) hx hb dL_isUser_94 (by decide) ?_
              refine lv_iand hx hb dL_isUser_95 ?_
              cases hV : cnt1 (Z 4 o) (nI k)
              · skip
                refine W.eq (g2 := F0 m 96 ls [.int 0]) (congrArg (fun z9 => F0 m 96 ls (.int z9 :: [])) ((and_cn (by omega)).trans (by rw [hV]; rfl))) ?_
                refine lv_iconst (v := 1) hx hb dL_isUser_96 (by decide) ?_
                refine lv_icmp_ne (tgt := 104) hx hb dL_isUser_97 (by decide) (fun c_10 => ?_) (fun c_10 => ?_)
                · replace c_10 := cn_ne (a := 0) (b := 1) (by omega) (by omega) c_10
                  refine lv_iconst (v := 0) hx hb dL_isUser_104 (by decide) ?_
                  refine lv_istore (lv' := [(10, .int 0), (9, .int 0), (8, .int 0), (7, .int w), (0, .ref (q 0)), (1, .int (nI u)), (2, .int (nI d)), (3, .int (nI o)), (4, .int y), (5, .int 1), (6, .int (nI k))]) hx hb dL_isUser_105 hl (by decide) rfl (fun ls hl => ?_)
                  obtain rfl : w = 5 := hw2.trans (by rw [if_neg (by rw [hU]; decide)])
                  refine lv_iload hx hb dL_isUser_107 (lv_at hl 9 rfl) ?_
                  refine lv_if_eq (tgt := 204) hx hb dL_isUser_109 (by decide) (fun c_11 => ?_) (fun c_11 => ?_)
                  · exact absurd c_11 (by decide)
                  · replace c_11 := cn_ne (a := 1) (b := 0) (by omega) (by omega) c_11
                    refine lv_iload hx hb dL_isUser_112 (lv_at hl 3 rfl) ?_
                    refine lv_iconst (v := 5) hx hb dL_isUser_114 (by decide) ?_
                    refine lv_icmp_ne (tgt := 122) hx hb dL_isUser_115 (by decide) (fun c_12 => ?_) (fun c_12 => ?_)
                    · exact absurd c_12 (by decide)
                    · replace c_12 := cn_eq (a := 5) (b := 5) (by omega) (by omega) c_12
                      refine lv_iconst (v := 1) hx hb dL_isUser_118 (by decide) ?_
                      refine lv_goto (tgt := 123) hx hb dL_isUser_119 (by decide) ?_
                      refine lv_iload hx hb dL_isUser_123 (lv_at hl 2 rfl) ?_
                      refine lv_if_ne (tgt := 132) hx hb dL_isUser_125 (by decide) (fun c_13 => ?_) (fun c_13 => ?_)
                      · exact absurd c_13 (by decide)
                      · replace c_13 := cn_eq (a := 0) (b := 0) (by omega) (by omega) c_13
                        refine lv_iconst (v := 1) hx hb dL_isUser_128 (by decide) ?_
                        refine lv_goto (tgt := 133) hx hb dL_isUser_129 (by decide) ?_
                        refine lv_icmp_ne (tgt := 204) hx hb dL_isUser_133 (by decide) (fun c_14 => ?_) (fun c_14 => ?_)
                        · exact absurd c_14 (by decide)
                        · replace c_14 := cn_eq (a := 1) (b := 1) (by omega) (by omega) c_14
                          refine lv_iload hx hb dL_isUser_136 (lv_at hl 3 rfl) ?_
                          refine lv_iconst (v := 4) hx hb dL_isUser_138 (by decide) ?_
                          refine lv_icmp_gt (tgt := 200) hx hb dL_isUser_139 (by decide) (fun c_15 => ?_) (fun c_15 => ?_)
                          · replace c_15 := cn_lt (a := 4) (b := 5) (by omega) (by omega) c_15
                            refine lv_iconst (v := 1) hx hb dL_isUser_200 (by decide) ?_
                            refine lv_goto (tgt := 205) hx hb dL_isUser_201 (by decide) ?_
                            refine lv_istore (lv' := [(5, .int 1), (10, .int 0), (9, .int 0), (8, .int 0), (7, .int 5), (0, .ref (q 0)), (1, .int (nI u)), (2, .int (nI d)), (3, .int (nI o)), (4, .int y), (6, .int (nI k))]) hx hb dL_isUser_205 hl (by decide) rfl (fun ls hl => ?_)
                            refine lv_iload hx hb dL_isUser_207 (lv_at hl 4 rfl) ?_
                            refine lv_iconst (v := 1) hx hb dL_isUser_209 (by decide) ?_
                            refine lv_icmp_le (tgt := 229) hx hb dL_isUser_210 (by decide) (fun c_16 => ?_) (fun c_16 => ?_)
                            · exact absurd c_16 (by decide)
                            · replace c_16 := cn_nle (a := 5) (b := 1) (by omega) (by omega) c_16
                              refine lv_iload hx hb dL_isUser_213 (lv_at hl 4 rfl) ?_
                              refine lv_iconst (v := 5) hx hb dL_isUser_215 (by decide) ?_
                              refine lv_icmp_ge (tgt := 229) hx hb dL_isUser_216 (by decide) (fun c_17 => ?_) (fun c_17 => ?_)
                              · replace c_17 := cn_le (a := 5) (b := 5) (by omega) (by omega) c_17
                                refine lv_iload hx hb dL_isUser_229 (lv_at hl 9 rfl) ?_
                                refine lv_istore (lv' := [(4, .int y), (5, .int 1), (10, .int 0), (9, .int 0), (8, .int 0), (7, .int 5), (0, .ref (q 0)), (1, .int (nI u)), (2, .int (nI d)), (3, .int (nI o)), (6, .int (nI k))]) hx hb dL_isUser_231 hl (by decide) rfl (fun ls hl => ?_)
                                refine lv_iinc (v := (nI (k + 1))) (lv' := [(6, .int (nI (k + 1))), (4, .int y), (5, .int 1), (10, .int 0), (9, .int 0), (8, .int 0), (7, .int 5), (0, .ref (q 0)), (1, .int (nI u)), (2, .int (nI d)), (3, .int (nI o))]) hx hb dL_isUser_233 hl (k := 10) rfl (nI_inc k) (by decide) rfl (fun ls hl => ?_)
                                refine lv_goto (tgt := 16) hx hb dL_isUser_236 (by decide) ?_
                                exact ih16 (k + 1) y (by omega) (by omega) (by rw [hy, msU, if_neg (fun q9 => by have q8 := q9.1; rw [hU] at q8; cases q8)]) _ (lv_sub hl [7, 8, 9, 10, 1, 2, 0] rfl)
                              · exact absurd c_17 (by decide)
                          · exact absurd c_15 (by decide)
                · exact absurd c_10 (by decide)
              · skip
                refine W.eq (g2 := F0 m 96 ls [.int 1]) (congrArg (fun z9 => F0 m 96 ls (.int z9 :: [])) ((and_cn (by omega)).trans (by rw [hV]; rfl))) ?_
                refine lv_iconst (v := 1) hx hb dL_isUser_96 (by decide) ?_
                refine lv_icmp_ne (tgt := 104) hx hb dL_isUser_97 (by decide) (fun c_18 => ?_) (fun c_18 => ?_)
                · exact absurd c_18 (by decide)
                · replace c_18 := cn_eq (a := 1) (b := 1) (by omega) (by omega) c_18
                  refine lv_iconst (v := 1) hx hb dL_isUser_100 (by decide) ?_
                  refine lv_goto (tgt := 105) hx hb dL_isUser_101 (by decide) ?_
                  refine lv_istore (lv' := [(10, .int 1), (9, .int 0), (8, .int 0), (7, .int w), (0, .ref (q 0)), (1, .int (nI u)), (2, .int (nI d)), (3, .int (nI o)), (4, .int y), (5, .int 1), (6, .int (nI k))]) hx hb dL_isUser_105 hl (by decide) rfl (fun ls hl => ?_)
                  obtain rfl : w = 5 := hw2.trans (by rw [if_neg (by rw [hU]; decide)])
                  refine lv_iload hx hb dL_isUser_107 (lv_at hl 9 rfl) ?_
                  refine lv_if_eq (tgt := 204) hx hb dL_isUser_109 (by decide) (fun c_19 => ?_) (fun c_19 => ?_)
                  · exact absurd c_19 (by decide)
                  · replace c_19 := cn_ne (a := 1) (b := 0) (by omega) (by omega) c_19
                    refine lv_iload hx hb dL_isUser_112 (lv_at hl 3 rfl) ?_
                    refine lv_iconst (v := 5) hx hb dL_isUser_114 (by decide) ?_
                    refine lv_icmp_ne (tgt := 122) hx hb dL_isUser_115 (by decide) (fun c_20 => ?_) (fun c_20 => ?_)
                    · exact absurd c_20 (by decide)
                    · replace c_20 := cn_eq (a := 5) (b := 5) (by omega) (by omega) c_20
                      refine lv_iconst (v := 1) hx hb dL_isUser_118 (by decide) ?_
                      refine lv_goto (tgt := 123) hx hb dL_isUser_119 (by decide) ?_
                      refine lv_iload hx hb dL_isUser_123 (lv_at hl 2 rfl) ?_
                      refine lv_if_ne (tgt := 132) hx hb dL_isUser_125 (by decide) (fun c_21 => ?_) (fun c_21 => ?_)
                      · exact absurd c_21 (by decide)
                      · replace c_21 := cn_eq (a := 0) (b := 0) (by omega) (by omega) c_21
                        refine lv_iconst (v := 1) hx hb dL_isUser_128 (by decide) ?_
                        refine lv_goto (tgt := 133) hx hb dL_isUser_129 (by decide) ?_
                        refine lv_icmp_ne (tgt := 204) hx hb dL_isUser_133 (by decide) (fun c_22 => ?_) (fun c_22 => ?_)
                        · exact absurd c_22 (by decide)
                        · replace c_22 := cn_eq (a := 1) (b := 1) (by omega) (by omega) c_22
                          refine lv_iload hx hb dL_isUser_136 (lv_at hl 3 rfl) ?_
                          refine lv_iconst (v := 4) hx hb dL_isUser_138 (by decide) ?_
                          refine lv_icmp_gt (tgt := 200) hx hb dL_isUser_139 (by decide) (fun c_23 => ?_) (fun c_23 => ?_)
                          · replace c_23 := cn_lt (a := 4) (b := 5) (by omega) (by omega) c_23
                            refine lv_iconst (v := 1) hx hb dL_isUser_200 (by decide) ?_
                            refine lv_goto (tgt := 205) hx hb dL_isUser_201 (by decide) ?_
                            refine lv_istore (lv' := [(5, .int 1), (10, .int 1), (9, .int 0), (8, .int 0), (7, .int 5), (0, .ref (q 0)), (1, .int (nI u)), (2, .int (nI d)), (3, .int (nI o)), (4, .int y), (6, .int (nI k))]) hx hb dL_isUser_205 hl (by decide) rfl (fun ls hl => ?_)
                            refine lv_iload hx hb dL_isUser_207 (lv_at hl 4 rfl) ?_
                            refine lv_iconst (v := 1) hx hb dL_isUser_209 (by decide) ?_
                            refine lv_icmp_le (tgt := 229) hx hb dL_isUser_210 (by decide) (fun c_24 => ?_) (fun c_24 => ?_)
                            · exact absurd c_24 (by decide)
                            · replace c_24 := cn_nle (a := 5) (b := 1) (by omega) (by omega) c_24
                              refine lv_iload hx hb dL_isUser_213 (lv_at hl 4 rfl) ?_
                              refine lv_iconst (v := 5) hx hb dL_isUser_215 (by decide) ?_
                              refine lv_icmp_ge (tgt := 229) hx hb dL_isUser_216 (by decide) (fun c_25 => ?_) (fun c_25 => ?_)
                              · replace c_25 := cn_le (a := 5) (b := 5) (by omega) (by omega) c_25
                                refine lv_iload hx hb dL_isUser_229 (lv_at hl 9 rfl) ?_
                                refine lv_istore (lv' := [(4, .int y), (5, .int 1), (10, .int 1), (9, .int 0), (8, .int 0), (7, .int 5), (0, .ref (q 0)), (1, .int (nI u)), (2, .int (nI d)), (3, .int (nI o)), (6, .int (nI k))]) hx hb dL_isUser_231 hl (by decide) rfl (fun ls hl => ?_)
                                refine lv_iinc (v := (nI (k + 1))) (lv' := [(6, .int (nI (k + 1))), (4, .int y), (5, .int 1), (10, .int 1), (9, .int 0), (8, .int 0), (7, .int 5), (0, .ref (q 0)), (1, .int (nI u)), (2, .int (nI d)), (3, .int (nI o))]) hx hb dL_isUser_233 hl (k := 10) rfl (nI_inc k) (by decide) rfl (fun ls hl => ?_)
                                refine lv_goto (tgt := 16) hx hb dL_isUser_236 (by decide) ?_
                                exact ih16 (k + 1) y (by omega) (by omega) (by rw [hy, msU, if_neg (fun q9 => by have q8 := q9.1; rw [hU] at q8; cases q8)]) _ (lv_sub hl [7, 8, 9, 10, 1, 2, 0] rfl)
                              · exact absurd c_25 (by decide)
                          · exact absurd c_23 (by decide)
            · have c_9n := Int32.not_lt.mp c_9
              refine lv_iload_n hx hb dL_isUser_68 rfl (lv_at hl 4 rfl) ?_
              refine lv_aload_n hx hb dL_isUser_69 rfl (lv_at hl 2 rfl) ?_
              refine lv_iload_n hx hb dL_isUser_70 rfl (lv_at hl 5 rfl) ?_
              refine lv_iconst (v := 1) hx hb dL_isUser_71 (by decide) ?_
              refine rn_V S hkx hth (nX5_version l hl0 (sa := sa) (h9 := (fun _ h => h)) (hP := hP) (hwf := hwf) (hv := (by omega)) (hw := (by omega)) (v := o) (w := 1)) gL_isUser_X5_version rfl idX5_version ⟨Nat.le_of_ble_eq_true rfl, Nat.le_of_ble_eq_true rfl⟩ hP 0 rfl rfl rfl rfl hl.1 rfl (Nat.le_of_ble_eq_true rfl) dL_isUser_72 ⟨Nat.le_of_ble_eq_true rfl, Nat.le_of_ble_eq_true rfl⟩ (fun v9 hv9 => ?_)
              subst hv9
              refine W.eq (g2 := F0 m 75 ls [.int (Z 2 o), .int (nI d)]) rfl ?_
              refine lv_icmp_ge (tgt := 82) hx hb dL_isUser_75 (by decide) (fun c_26 => ?_) (fun c_26 => ?_)
              · have c_26n := Int32.not_lt.mpr c_26
                refine lv_iconst (v := 0) hx hb dL_isUser_82 (by decide) ?_
                refine lv_istore (lv' := [(9, .int 0), (8, .int 0), (7, .int w), (0, .ref (q 0)), (1, .int (nI u)), (2, .int (nI d)), (3, .int (nI o)), (4, .int y), (5, .int 1), (6, .int (nI k))]) hx hb dL_isUser_83 hl (by decide) rfl (fun ls hl => ?_)
                refine lv_aload_n hx hb dL_isUser_85 rfl (lv_at hl 3 rfl) ?_
                refine lv_iload_n hx hb dL_isUser_86 rfl (lv_at hl 6 rfl) ?_
                refine lv_iconst (v := 2) hx hb dL_isUser_87 (by decide) ?_
                refine rn_V S hkx hth (nX5_version l hl0 (sa := sa) (h9 := (fun _ h => h)) (hP := hP) (hwf := hwf) (hv := (by omega)) (hw := (by omega)) (v := o) (w := 2)) gL_isUser_X5_version rfl idX5_version ⟨Nat.le_of_ble_eq_true rfl, Nat.le_of_ble_eq_true rfl⟩ hP 0 rfl rfl rfl rfl hl.1 rfl (Nat.le_of_ble_eq_true rfl) dL_isUser_88 ⟨Nat.le_of_ble_eq_true rfl, Nat.le_of_ble_eq_true rfl⟩ (fun v9 hv9 => ?_)
                subst hv9
                refine W.eq (g2 := F0 m 91 ls [.int (Z 4 o)]) rfl ?_
                refine lv_iload hx hb dL_isUser_91 (lv_at hl 9 rfl) ?_
                refine lv_ishr hx hb dL_isUser_93 ?_
                refine lv_iconst (v := 1) hx hb dL_isUser_94 (by decide) ?_
                refine lv_iand hx hb dL_isUser_95 ?_
                cases hV : cnt1 (Z 4 o) (nI k)
                · skip
                  refine W.eq (g2 := F0 m 96 ls [.int 0]) (congrArg (fun z9 => F0 m 96 ls (.int z9 :: [])) ((and_cn (by omega)).trans (by rw [hV]; rfl))) ?_
                  refine lv_iconst (v := 1) hx hb dL_isUser_96 (by decide) ?_
                  refine lv_icmp_ne (tgt := 104) hx hb dL_isUser_97 (by decide) (fun c_27 => ?_) (fun c_27 => ?_)
                  · replace c_27 := cn_ne (a := 0) (b := 1) (by omega) (by omega) c_27
                    refine lv_iconst (v := 0) hx hb dL_isUser_104 (by decide) ?_
                    refine lv_istore (lv' := [(10, .int 0), (9, .int 0), (8, .int 0), (7, .int w), (0, .ref (q 0)), (1, .int (nI u)), (2, .int (nI d)), (3, .int (nI o)), (4, .int y), (5, .int 1), (6, .int (nI k))]) hx hb dL_isUser_105 hl (by decide) rfl (fun ls hl => ?_)
                    obtain rfl : w = 5 := hw2.trans (by rw [if_neg (by rw [hU]; decide)])
                    refine lv_iload hx hb dL_isUser_107 (lv_at hl 9 rfl) ?_
                    refine lv_if_eq (tgt := 204) hx hb dL_isUser_109 (by decide) (fun c_28 => ?_) (fun c_28 => ?_)
                    · exact absurd c_28 (by decide)
                    · replace c_28 := cn_ne (a := 1) (b := 0) (by omega) (by omega) c_28
                      refine lv_iload hx hb dL_isUser_112 (lv_at hl 3 rfl) ?_
                      refine lv_iconst (v := 5) hx hb dL_isUser_114 (by decide) ?_
                      refine lv_icmp_ne (tgt := 122) hx hb dL_isUser_115 (by decide) (fun c_29 => ?_) (fun c_29 => ?_)
                      · exact absurd c_29 (by decide)
                      · replace c_29 := cn_eq (a := 5) (b := 5) (by omega) (by omega) c_29
                        refine lv_iconst (v := 1) hx hb dL_isUser_118 (by decide) ?_
                        refine lv_goto (tgt := 123) hx hb dL_isUser_119 (by decide) ?_
                        refine lv_iload hx hb dL_isUser_123 (lv_at hl 2 rfl) ?_
                        refine lv_if_ne (tgt := 132) hx hb dL_isUser_125 (by decide) (fun c_30 => ?_) (fun c_30 => ?_)
                        · exact absurd c_30 (by decide)
                        · replace c_30 := cn_eq (a := 0) (b := 0) (by omega) (by omega) c_30
                          refine lv_iconst (v := 1) hx hb dL_isUser_128 (by decide) ?_
                          refine lv_goto (tgt := 133) hx hb dL_isUser_129 (by decide) ?_
                          refine lv_icmp_ne (tgt := 204) hx hb dL_isUser_133 (by decide) (fun c_31 => ?_) (fun c_31 => ?_)
                          · exact absurd c_31 (by decide)
                          · replace c_31 := cn_eq (a := 1) (b := 1) (by omega) (by omega) c_31
                            refine lv_iload hx hb dL_isUser_136 (lv_at hl 3 rfl) ?_
                            refine lv_iconst (v := 4) hx hb dL_isUser_138 (by decide) ?_
                            refine lv_icmp_gt (tgt := 200) hx hb dL_isUser_139 (by decide) (fun c_32 => ?_) (fun c_32 => ?_)
                            · replace c_32 := cn_lt (a := 4) (b := 5) (by omega) (by omega) c_32
                              refine lv_iconst (v := 1) hx hb dL_isUser_200 (by decide) ?_
                              refine lv_goto (tgt := 205) hx hb dL_isUser_201 (by decide) ?_
                              refine lv_istore (lv' := [(5, .int 1), (10, .int 0), (9, .int 0), (8, .int 0), (7, .int 5), (0, .ref (q 0)), (1, .int (nI u)), (2, .int (nI d)), (3, .int (nI o)), (4, .int y), (6, .int (nI k))]) hx hb dL_isUser_205 hl (by decide) rfl (fun ls hl => ?_)
                              refine lv_iload hx hb dL_isUser_207 (lv_at hl 4 rfl) ?_
                              refine lv_iconst (v := 1) hx hb dL_isUser_209 (by decide) ?_
                              refine lv_icmp_le (tgt := 229) hx hb dL_isUser_210 (by decide) (fun c_33 => ?_) (fun c_33 => ?_)
                              · exact absurd c_33 (by decide)
                              · replace c_33 := cn_nle (a := 5) (b := 1) (by omega) (by omega) c_33
                                refine lv_iload hx hb dL_isUser_213 (lv_at hl 4 rfl) ?_
                                refine lv_iconst (v := 5) hx hb dL_isUser_215 (by decide) ?_
                                refine lv_icmp_ge (tgt := 229) hx hb dL_isUser_216 (by decide) (fun c_34 => ?_) (fun c_34 => ?_)
                                · replace c_34 := cn_le (a := 5) (b := 5) (by omega) (by omega) c_34
                                  refine lv_iload hx hb dL_isUser_229 (lv_at hl 9 rfl) ?_
                                  refine lv_istore (lv' := [(4, .int y), (5, .int 1), (10, .int 0), (9, .int 0), (8, .int 0), (7, .int 5), (0, .ref (q 0)), (1, .int (nI u)), (2, .int (nI d)), (3, .int (nI o)), (6, .int (nI k))]) hx hb dL_isUser_231 hl (by decide) rfl (fun ls hl => ?_)
                                  refine lv_iinc (v := (nI (k + 1))) (lv' := [(6, .int (nI (k + 1))), (4, .int y), (5, .int 1), (10, .int 0), (9, .int 0), (8, .int 0), (7, .int 5), (0, .ref (q 0)), (1, .int (nI u)), (2, .int (nI d)), (3, .int (nI o))]) hx hb dL_isUser_233 hl (k := 10) rfl (nI_inc k) (by decide) rfl (fun ls hl => ?_)
                                  refine lv_goto (tgt := 16) hx hb dL_isUser_236 (by decide) ?_
                                  exact ih16 (k + 1) y (by omega) (by omega) (by rw [hy, msU, if_neg (fun q9 => by have q8 := q9.1; rw [hU] at q8; cases q8)]) _ (lv_sub hl [7, 8, 9, 10, 1, 2, 0] rfl)
                                · exact absurd c_34 (by decide)
                            · exact absurd c_32 (by decide)
                  · exact absurd c_27 (by decide)
                · skip
                  refine W.eq (g2 := F0 m 96 ls [.int 1]) (congrArg (fun z9 => F0 m 96 ls (.int z9 :: [])) ((and_cn (by omega)).trans (by rw [hV]; rfl))) ?_
                  refine lv_iconst (v := 1) hx hb dL_isUser_96 (by decide) ?_
                  refine lv_icmp_ne (tgt := 104) hx hb dL_isUser_97 (by decide) (fun c_35 => ?_) (fun c_35 => ?_)
                  · exact absurd c_35 (by decide)
                  · replace c_35 := cn_eq (a := 1) (b := 1) (by omega) (by omega) c_35
                    refine lv_iconst (v := 1) hx hb dL_isUser_100 (by decide) ?_
                    refine lv_goto (tgt := 105) hx hb dL_isUser_101 (by decide) ?_
                    refine lv_istore (lv' := [(10, .int 1), (9, .int 0), (8, .int 0), (7, .int w), (0, .ref (q 0)), (1, .int (nI u)), (2, .int (nI d)), (3, .int (nI o)), (4, .int y), (5, .int 1), (6, .int (nI k))]) hx hb dL_isUser_105 hl (by decide) rfl (fun ls hl => ?_)
                    obtain rfl : w = 5 := hw2.trans (by rw [if_neg (by rw [hU]; decide)])
                    refine lv_iload hx hb dL_isUser_107 (lv_at hl 9 rfl) ?_
                    refine lv_if_eq (tgt := 204) hx hb dL_isUser_109 (by decide) (fun c_36 => ?_) (fun c_36 => ?_)
                    · exact absurd c_36 (by decide)
                    · replace c_36 := cn_ne (a := 1) (b := 0) (by omega) (by omega) c_36
                      refine lv_iload hx hb dL_isUser_112 (lv_at hl 3 rfl) ?_
                      refine lv_iconst (v := 5) hx hb dL_isUser_114 (by decide) ?_
                      refine lv_icmp_ne (tgt := 122) hx hb dL_isUser_115 (by decide) (fun c_37 => ?_) (fun c_37 => ?_)
                      · exact absurd c_37 (by decide)
                      · replace c_37 := cn_eq (a := 5) (b := 5) (by omega) (by omega) c_37
                        refine lv_iconst (v := 1) hx hb dL_isUser_118 (by decide) ?_
                        refine lv_goto (tgt := 123) hx hb dL_isUser_119 (by decide) ?_
                        refine lv_iload hx hb dL_isUser_123 (lv_at hl 2 rfl) ?_
                        refine lv_if_ne (tgt := 132) hx hb dL_isUser_125 (by decide) (fun c_38 => ?_) (fun c_38 => ?_)
                        · exact absurd c_38 (by decide)
                        · replace c_38 := cn_eq (a := 0) (b := 0) (by omega) (by omega) c_38
                          refine lv_iconst (v := 1) hx hb dL_isUser_128 (by decide) ?_
                          refine lv_goto (tgt := 133) hx hb dL_isUser_129 (by decide) ?_
                          refine lv_icmp_ne (tgt := 204) hx hb dL_isUser_133 (by decide) (fun c_39 => ?_) (fun c_39 => ?_)
                          · exact absurd c_39 (by decide)
                          · replace c_39 := cn_eq (a := 1) (b := 1) (by omega) (by omega) c_39
                            refine lv_iload hx hb dL_isUser_136 (lv_at hl 3 rfl) ?_
                            refine lv_iconst (v := 4) hx hb dL_isUser_138 (by decide) ?_
                            refine lv_icmp_gt (tgt := 200) hx hb dL_isUser_139 (by decide) (fun c_40 => ?_) (fun c_40 => ?_)
                            · replace c_40 := cn_lt (a := 4) (b := 5) (by omega) (by omega) c_40
                              refine lv_iconst (v := 1) hx hb dL_isUser_200 (by decide) ?_
                              refine lv_goto (tgt := 205) hx hb dL_isUser_201 (by decide) ?_
                              refine lv_istore (lv' := [(5, .int 1), (10, .int 1), (9, .int 0), (8, .int 0), (7, .int 5), (0, .ref (q 0)), (1, .int (nI u)), (2, .int (nI d)), (3, .int (nI o)), (4, .int y), (6, .int (nI k))]) hx hb dL_isUser_205 hl (by decide) rfl (fun ls hl => ?_)
                              refine lv_iload hx hb dL_isUser_207 (lv_at hl 4 rfl) ?_
                              refine lv_iconst (v := 1) hx hb dL_isUser_209 (by decide) ?_
                              refine lv_icmp_le (tgt := 229) hx hb dL_isUser_210 (by decide) (fun c_41 => ?_) (fun c_41 => ?_)
                              · exact absurd c_41 (by decide)
                              · replace c_41 := cn_nle (a := 5) (b := 1) (by omega) (by omega) c_41
                                refine lv_iload hx hb dL_isUser_213 (lv_at hl 4 rfl) ?_
                                refine lv_iconst (v := 5) hx hb dL_isUser_215 (by decide) ?_
                                refine lv_icmp_ge (tgt := 229) hx hb dL_isUser_216 (by decide) (fun c_42 => ?_) (fun c_42 => ?_)
                                · replace c_42 := cn_le (a := 5) (b := 5) (by omega) (by omega) c_42
                                  refine lv_iload hx hb dL_isUser_229 (lv_at hl 9 rfl) ?_
                                  refine lv_istore (lv' := [(4, .int y), (5, .int 1), (10, .int 1), (9, .int 0), (8, .int 0), (7, .int 5), (0, .ref (q 0)), (1, .int (nI u)), (2, .int (nI d)), (3, .int (nI o)), (6, .int (nI k))]) hx hb dL_isUser_231 hl (by decide) rfl (fun ls hl => ?_)
                                  refine lv_iinc (v := (nI (k + 1))) (lv' := [(6, .int (nI (k + 1))), (4, .int y), (5, .int 1), (10, .int 1), (9, .int 0), (8, .int 0), (7, .int 5), (0, .ref (q 0)), (1, .int (nI u)), (2, .int (nI d)), (3, .int (nI o))]) hx hb dL_isUser_233 hl (k := 10) rfl (nI_inc k) (by decide) rfl (fun ls hl => ?_)
                                  refine lv_goto (tgt := 16) hx hb dL_isUser_236 (by decide) ?_
                                  exact ih16 (k + 1) y (by omega) (by omega) (by rw [hy, msU, if_neg (fun q9 => by have q8 := q9.1; rw [hU] at q8; cases q8)]) _ (lv_sub hl [7, 8, 9, 10, 1, 2, 0] rfl)
                                · exact absurd c_42 (by decide)
                            · exact absurd c_40 (by decide)
              · have c_26n := Int32.not_le.mp c_26
                refine lv_iconst (v := 1) hx hb dL_isUser_78 (by decide) ?_
                refine lv_goto (tgt := 83) hx hb dL_isUser_79 (by decide) ?_
                refine lv_istore (lv' := [(9, .int 1), (8, .int 0), (7, .int w), (0, .ref (q 0)), (1, .int (nI u)), (2, .int (nI d)), (3, .int (nI o)), (4, .int y), (5, .int 1), (6, .int (nI k))]) hx hb dL_isUser_83 hl (by decide) rfl (fun ls hl => ?_)
                refine lv_aload_n hx hb dL_isUser_85 rfl (lv_at hl 3 rfl) ?_
                refine lv_iload_n hx hb dL_isUser_86 rfl (lv_at hl 6 rfl) ?_
                refine lv_iconst (v := 2) hx hb dL_isUser_87 (by decide) ?_
                refine rn_V S hkx hth (nX5_version l hl0 (sa := sa) (h9 := (fun _ h => h)) (hP := hP) (hwf := hwf) (hv := (by omega)) (hw := (by omega)) (v := o) (w := 2)) gL_isUser_X5_version rfl idX5_version ⟨Nat.le_of_ble_eq_true rfl, Nat.le_of_ble_eq_true rfl⟩ hP 0 rfl rfl rfl rfl hl.1 rfl (Nat.le_of_ble_eq_true rfl) dL_isUser_88 ⟨Nat.le_of_ble_eq_true rfl, Nat.le_of_ble_eq_true rfl⟩ (fun v9 hv9 => ?_)
                subst hv9
                refine W.eq (g2 := F0 m 91 ls [.int (Z 4 o)]) rfl ?_
                refine lv_iload hx hb dL_isUser_91 (lv_at hl 9 rfl) ?_
                refine lv_ishr hx hb dL_isUser_93 ?_
                refine lv_iconst (v := 1) hx hb dL_isUser_94 (by decide) ?_
                refine lv_iand hx hb dL_isUser_95 ?_
                cases hV : cnt1 (Z 4 o) (nI k)
                · skip
                  refine W.eq (g2 := F0 m 96 ls [.int 0]) (congrArg (fun z9 => F0 m 96 ls (.int z9 :: [])) ((and_cn (by omega)).trans (by rw [hV]; rfl))) ?_
                  refine lv_iconst (v := 1) hx hb dL_isUser_96 (by decide) ?_
                  refine lv_icmp_ne (tgt := 104) hx hb dL_isUser_97 (by decide) (fun c_43 => ?_) (fun c_43 => ?_)
                  · replace c_43 := cn_ne (a := 0) (b := 1) (by omega) (by omega) c_43
                    refine lv_iconst (v := 0) hx hb dL_isUser_104 (by decide) ?_
                    refine lv_istore (lv' := [(10, .int 0), (9, .int 1), (8, .int 0), (7, .int w), (0, .ref (q 0)), (1, .int (nI u)), (2, .int (nI d)), (3, .int (nI o)), (4, .int y), (5, .int 1), (6, .int (nI k))]) hx hb dL_isUser_105 hl (by decide) rfl (fun ls hl => ?_)
                    obtain rfl : w = 5 := hw2.trans (by rw [if_neg (by rw [hU]; decide)])
                    refine lv_iload hx hb dL_isUser_107 (lv_at hl 9 rfl) ?_
                    refine lv_if_eq (tgt := 204) hx hb dL_isUser_109 (by decide) (fun c_44 => ?_) (fun c_44 => ?_)
                    · exact absurd c_44 (by decide)
                    · replace c_44 := cn_ne (a := 1) (b := 0) (by omega) (by omega) c_44
                      refine lv_iload hx hb dL_isUser_112 (lv_at hl 3 rfl) ?_
                      refine lv_iconst (v := 5) hx hb dL_isUser_114 (by decide) ?_
                      refine lv_icmp_ne (tgt := 122) hx hb dL_isUser_115 (by decide) (fun c_45 => ?_) (fun c_45 => ?_)
                      · exact absurd c_45 (by decide)
                      · replace c_45 := cn_eq (a := 5) (b := 5) (by omega) (by omega) c_45
                        refine lv_iconst (v := 1) hx hb dL_isUser_118 (by decide) ?_
                        refine lv_goto (tgt := 123) hx hb dL_isUser_119 (by decide) ?_
                        refine lv_iload hx hb dL_isUser_123 (lv_at hl 2 rfl) ?_
                        refine lv_if_ne (tgt := 132) hx hb dL_isUser_125 (by decide) (fun c_46 => ?_) (fun c_46 => ?_)
                        · exact absurd c_46 (by decide)
                        · replace c_46 := cn_eq (a := 0) (b := 0) (by omega) (by omega) c_46
                          refine lv_iconst (v := 1) hx hb dL_isUser_128 (by decide) ?_
                          refine lv_goto (tgt := 133) hx hb dL_isUser_129 (by decide) ?_
                          refine lv_icmp_ne (tgt := 204) hx hb dL_isUser_133 (by decide) (fun c_47 => ?_) (fun c_47 => ?_)
                          · exact absurd c_47 (by decide)
                          · replace c_47 := cn_eq (a := 1) (b := 1) (by omega) (by omega) c_47
                            refine lv_iload hx hb dL_isUser_136 (lv_at hl 3 rfl) ?_
                            refine lv_iconst (v := 4) hx hb dL_isUser_138 (by decide) ?_
                            refine lv_icmp_gt (tgt := 200) hx hb dL_isUser_139 (by decide) (fun c_48 => ?_) (fun c_48 => ?_)
                            · replace c_48 := cn_lt (a := 4) (b := 5) (by omega) (by omega) c_48
                              refine lv_iconst (v := 1) hx hb dL_isUser_200 (by decide) ?_
                              refine lv_goto (tgt := 205) hx hb dL_isUser_201 (by decide) ?_
                              refine lv_istore (lv' := [(5, .int 1), (10, .int 0), (9, .int 1), (8, .int 0), (7, .int 5), (0, .ref (q 0)), (1, .int (nI u)), (2, .int (nI d)), (3, .int (nI o)), (4, .int y), (6, .int (nI k))]) hx hb dL_isUser_205 hl (by decide) rfl (fun ls hl => ?_)
                              refine lv_iload hx hb dL_isUser_207 (lv_at hl 4 rfl) ?_
                              refine lv_iconst (v := 1) hx hb dL_isUser_209 (by decide) ?_
                              refine lv_icmp_le (tgt := 229) hx hb dL_isUser_210 (by decide) (fun c_49 => ?_) (fun c_49 => ?_)
                              · exact absurd c_49 (by decide)
                              · replace c_49 := cn_nle (a := 5) (b := 1) (by omega) (by omega) c_49
                                refine lv_iload hx hb dL_isUser_213 (lv_at hl 4 rfl) ?_
                                refine lv_iconst (v := 5) hx hb dL_isUser_215 (by decide) ?_
                                refine lv_icmp_ge (tgt := 229) hx hb dL_isUser_216 (by decide) (fun c_50 => ?_) (fun c_50 => ?_)
                                · replace c_50 := cn_le (a := 5) (b := 5) (by omega) (by omega) c_50
                                  refine lv_iload hx hb dL_isUser_229 (lv_at hl 9 rfl) ?_
                                  refine lv_istore (lv' := [(4, .int y), (5, .int 1), (10, .int 0), (9, .int 1), (8, .int 0), (7, .int 5), (0, .ref (q 0)), (1, .int (nI u)), (2, .int (nI d)), (3, .int (nI o)), (6, .int (nI k))]) hx hb dL_isUser_231 hl (by decide) rfl (fun ls hl => ?_)
                                  refine lv_iinc (v := (nI (k + 1))) (lv' := [(6, .int (nI (k + 1))), (4, .int y), (5, .int 1), (10, .int 0), (9, .int 1), (8, .int 0), (7, .int 5), (0, .ref (q 0)), (1, .int (nI u)), (2, .int (nI d)), (3, .int (nI o))]) hx hb dL_isUser_233 hl (k := 10) rfl (nI_inc k) (by decide) rfl (fun ls hl => ?_)
                                  refine lv_goto (tgt := 16) hx hb dL_isUser_236 (by decide) ?_
                                  exact ih16 (k + 1) y (by omega) (by omega) (by rw [hy, msU, if_neg (fun q9 => by have q8 := q9.1; rw [hU] at q8; cases q8)]) _ (lv_sub hl [7, 8, 9, 10, 1, 2, 0] rfl)
                                · exact absurd c_50 (by decide)
                            · exact absurd c_48 (by decide)
                  · exact absurd c_43 (by decide)
                · skip
                  refine W.eq (g2 := F0 m 96 ls [.int 1]) (congrArg (fun z9 => F0 m 96 ls (.int z9 :: [])) ((and_cn (by omega)).trans (by rw [hV]; rfl))) ?_
                  refine lv_iconst (v := 1) hx hb dL_isUser_96 (by decide) ?_
                  refine lv_icmp_ne (tgt := 104) hx hb dL_isUser_97 (by decide) (fun c_51 => ?_) (fun c_51 => ?_)
                  · exact absurd c_51 (by decide)
                  · replace c_51 := cn_eq (a := 1) (b := 1) (by omega) (by omega) c_51
                    refine lv_iconst (v := 1) hx hb dL_isUser_100 (by decide) ?_
                    refine lv_goto (tgt := 105) hx hb dL_isUser_101 (by decide) ?_
                    refine lv_istore (lv' := [(10, .int 1), (9, .int 1), (8, .int 0), (7, .int w), (0, .ref (q 0)), (1, .int (nI u)), (2, .int (nI d)), (3, .int (nI o)), (4, .int y), (5, .int 1), (6, .int (nI k))]) hx hb dL_isUser_105 hl (by decide) rfl (fun ls hl => ?_)
                    obtain rfl : w = 5 := hw2.trans (by rw [if_neg (by rw [hU]; decide)])
                    refine lv_iload hx hb dL_isUser_107 (lv_at hl 9 rfl) ?_
                    refine lv_if_eq (tgt := 204) hx hb dL_isUser_109 (by decide) (fun c_52 => ?_) (fun c_52 => ?_)
                    · exact absurd c_52 (by decide)
                    · replace c_52 := cn_ne (a := 1) (b := 0) (by omega) (by omega) c_52
                      refine lv_iload hx hb dL_isUser_112 (lv_at hl 3 rfl) ?_
                      refine lv_iconst (v := 5) hx hb dL_isUser_114 (by decide) ?_
                      refine lv_icmp_ne (tgt := 122) hx hb dL_isUser_115 (by decide) (fun c_53 => ?_) (fun c_53 => ?_)
                      · exact absurd c_53 (by decide)
                      · replace c_53 := cn_eq (a := 5) (b := 5) (by omega) (by omega) c_53
                        refine lv_iconst (v := 1) hx hb dL_isUser_118 (by decide) ?_
                        refine lv_goto (tgt := 123) hx hb dL_isUser_119 (by decide) ?_
                        refine lv_iload hx hb dL_isUser_123 (lv_at hl 2 rfl) ?_
                        refine lv_if_ne (tgt := 132) hx hb dL_isUser_125 (by decide) (fun c_54 => ?_) (fun c_54 => ?_)
                        · exact absurd c_54 (by decide)
                        · replace c_54 := cn_eq (a := 0) (b := 0) (by omega) (by omega) c_54
                          refine lv_iconst (v := 1) hx hb dL_isUser_128 (by decide) ?_
                          refine lv_goto (tgt := 133) hx hb dL_isUser_129 (by decide) ?_
                          refine lv_icmp_ne (tgt := 204) hx hb dL_isUser_133 (by decide) (fun c_55 => ?_) (fun c_55 => ?_)
                          · exact absurd c_55 (by decide)
                          · replace c_55 := cn_eq (a := 1) (b := 1) (by omega) (by omega) c_55
                            refine lv_iload hx hb dL_isUser_136 (lv_at hl 3 rfl) ?_
                            refine lv_iconst (v := 4) hx hb dL_isUser_138 (by decide) ?_
                            refine lv_icmp_gt (tgt := 200) hx hb dL_isUser_139 (by decide) (fun c_56 => ?_) (fun c_56 => ?_)
                            · replace c_56 := cn_lt (a := 4) (b := 5) (by omega) (by omega) c_56
                              refine lv_iconst (v := 1) hx hb dL_isUser_200 (by decide) ?_
                              refine lv_goto (tgt := 205) hx hb dL_isUser_201 (by decide) ?_
                              refine lv_istore (lv' := [(5, .int 1), (10, .int 1), (9, .int 1), (8, .int 0), (7, .int 5), (0, .ref (q 0)), (1, .int (nI u)), (2, .int (nI d)), (3, .int (nI o)), (4, .int y), (6, .int (nI k))]) hx hb dL_isUser_205 hl (by decide) rfl (fun ls hl => ?_)
                              refine lv_iload hx hb dL_isUser_207 (lv_at hl 4 rfl) ?_
                              refine lv_iconst (v := 1) hx hb dL_isUser_209 (by decide) ?_
                              refine lv_icmp_le (tgt := 229) hx hb dL_isUser_210 (by decide) (fun c_57 => ?_) (fun c_57 => ?_)
                              · exact absurd c_57 (by decide)
                              · replace c_57 := cn_nle (a := 5) (b := 1) (by omega) (by omega) c_57
                                refine lv_iload hx hb dL_isUser_213 (lv_at hl 4 rfl) ?_
                                refine lv_iconst (v := 5) hx hb dL_isUser_215 (by decide) ?_
                                refine lv_icmp_ge (tgt := 229) hx hb dL_isUser_216 (by decide) (fun c_58 => ?_) (fun c_58 => ?_)
                                · replace c_58 := cn_le (a := 5) (b := 5) (by omega) (by omega) c_58
                                  refine lv_iload hx hb dL_isUser_229 (lv_at hl 9 rfl) ?_
                                  refine lv_istore (lv' := [(4, .int y), (5, .int 1), (10, .int 1), (9, .int 1), (8, .int 0), (7, .int 5), (0, .ref (q 0)), (1, .int (nI u)), (2, .int (nI d)), (3, .int (nI o)), (6, .int (nI k))]) hx hb dL_isUser_231 hl (by decide) rfl (fun ls hl => ?_)
                                  refine lv_iinc (v := (nI (k + 1))) (lv' := [(6, .int (nI (k + 1))), (4, .int y), (5, .int 1), (10, .int 1), (9, .int 1), (8, .int 0), (7, .int 5), (0, .ref (q 0)), (1, .int (nI u)), (2, .int (nI d)), (3, .int (nI o))]) hx hb dL_isUser_233 hl (k := 10) rfl (nI_inc k) (by decide) rfl (fun ls hl => ?_)
                                  refine lv_goto (tgt := 16) hx hb dL_isUser_236 (by decide) ?_
                                  exact ih16 (k + 1) y (by omega) (by omega) (by rw [hy, msU, if_neg (fun q9 => by have q8 := q9.1; rw [hU] at q8; cases q8)]) _ (lv_sub hl [7, 8, 9, 10, 1, 2, 0] rfl)
                                · exact absurd c_58 (by decide)
                            · exact absurd c_56 (by decide)
          · exact absurd c_8 (by decide)
        · skip
          refine W.eq (g2 := F0 m 47 ls [.int 1]) (congrArg (fun z9 => F0 m 47 ls (.int z9 :: [])) ((and_cn (by omega)).trans (by rw [hU]; rfl))) ?_
          refine lv_iconst (v := 1) hx hb dL_isUser_47 (by decide) ?_
          refine lv_icmp_ne (tgt := 55) hx hb dL_isUser_48 (by decide) (fun c_59 => ?_) (fun c_59 => ?_)
          · exact absurd c_59 (by decide)
          · replace c_59 := cn_eq (a := 1) (b := 1) (by omega) (by omega) c_59
            refine lv_iconst (v := 1) hx hb dL_isUser_51 (by decide) ?_
            refine lv_goto (tgt := 56) hx hb dL_isUser_52 (by decide) ?_
            refine lv_istore (lv' := [(8, .int 1), (7, .int w), (0, .ref (q 0)), (1, .int (nI u)), (2, .int (nI d)), (3, .int (nI o)), (4, .int y), (5, .int 1), (6, .int (nI k))]) hx hb dL_isUser_56 hl (by decide) rfl (fun ls hl => ?_)
            refine lv_iload_n hx hb dL_isUser_58 rfl (lv_at hl 4 rfl) ?_
            refine lv_aload_n hx hb dL_isUser_59 rfl (lv_at hl 2 rfl) ?_
            refine lv_iload_n hx hb dL_isUser_60 rfl (lv_at hl 5 rfl) ?_
            refine lv_iconst (v := 0) hx hb dL_isUser_61 (by decide) ?_
            refine rn_V S hkx hth (nX5_version l hl0 (sa := sa) (h9 := (fun _ h => h)) (hP := hP) (hwf := hwf) (hv := (by omega)) (hw := (by omega)) (v := o) (w := 0)) gL_isUser_X5_version rfl idX5_version ⟨Nat.le_of_ble_eq_true rfl, Nat.le_of_ble_eq_true rfl⟩ hP 0 rfl rfl rfl rfl hl.1 rfl (Nat.le_of_ble_eq_true rfl) dL_isUser_62 ⟨Nat.le_of_ble_eq_true rfl, Nat.le_of_ble_eq_true rfl⟩ (fun v9 hv9 => ?_)
            subst hv9
            refine W.eq (g2 := F0 m 65 ls [.int (Z 1 o), .int (nI d)]) rfl ?_
            refine lv_icmp_lt (tgt := 82) hx hb dL_isUser_65 (by decide) (fun c_60 => ?_) (fun c_60 => ?_)
            · have c_60n := Int32.not_le.mpr c_60
              refine lv_iconst (v := 0) hx hb dL_isUser_82 (by decide) ?_
              refine lv_istore (lv' := [(9, .int 0), (8, .int 1), (7, .int w), (0, .ref (q 0)), (1, .int (nI u)), (2, .int (nI d)), (3, .int (nI o)), (4, .int y), (5, .int 1), (6, .int (nI k))]) hx hb dL_isUser_83 hl (by decide) rfl (fun ls hl => ?_)
              refine lv_aload_n hx hb dL_isUser_85 rfl (lv_at hl 3 rfl) ?_
              refine lv_iload_n hx hb dL_isUser_86 rfl (lv_at hl 6 rfl) ?_
              refine lv_iconst (v := 2) hx hb dL_isUser_87 (by decide) ?_
              refine rn_V S hkx hth (nX5_version l hl0 (sa := sa) (h9 := (fun _ h => h)) (hP := hP) (hwf := hwf) (hv := (by omega)) (hw := (by omega)) (v := o) (w := 2)) gL_isUser_X5_version rfl idX5_version ⟨Nat.le_of_ble_eq_true rfl, Nat.le_of_ble_eq_true rfl⟩ hP 0 rfl rfl rfl rfl hl.1 rfl (Nat.le_of_ble_eq_true rfl) dL_isUser_88 ⟨Nat.le_of_ble_eq_true rfl, Nat.le_of_ble_eq_true rfl⟩ (fun v9 hv9 => ?_)
              subst hv9
              refine W.eq (g2 := F0 m 91 ls [.int (Z 4 o)]) rfl ?_
              refine lv_iload hx hb dL_isUser_91 (lv_at hl 9 rfl) ?_
              refine lv_ishr hx hb dL_isUser_93 ?_
              refine lv_iconst (v := 1) hx hb dL_isUser_94 (by decide) ?_
              refine lv_iand hx hb dL_isUser_95 ?_
              cases hV : cnt1 (Z 4 o) (nI k)
              · skip
                refine W.eq (g2 := F0 m 96 ls [.int 0]) (congrArg (fun z9 => F0 m 96 ls (.int z9 :: [])) ((and_cn (by omega)).trans (by rw [hV]; rfl))) ?_
                refine lv_iconst (v := 1) hx hb dL_isUser_96 (by decide) ?_
                refine lv_icmp_ne (tgt := 104) hx hb dL_isUser_97 (by decide) (fun c_61 => ?_) (fun c_61 => ?_)
                · replace c_61 := cn_ne (a := 0) (b := 1) (by omega) (by omega) c_61
                  refine lv_iconst (v := 0) hx hb dL_isUser_104 (by decide) ?_
                  refine lv_istore (lv' := [(10, .int 0), (9, .int 0), (8, .int 1), (7, .int w), (0, .ref (q 0)), (1, .int (nI u)), (2, .int (nI d)), (3, .int (nI o)), (4, .int y), (5, .int 1), (6, .int (nI k))]) hx hb dL_isUser_105 hl (by decide) rfl (fun ls hl => ?_)
                  have hs : sv4 N Z o k (nI d) = 2 := by unfold sv4; rw [if_pos c_60]
                  obtain rfl : w = 2 := hw2.trans (by rw [if_pos hU, hs])
                  refine lv_iload hx hb dL_isUser_107 (lv_at hl 9 rfl) ?_
                  refine lv_if_eq (tgt := 204) hx hb dL_isUser_109 (by decide) (fun c_62 => ?_) (fun c_62 => ?_)
                  · exact absurd c_62 (by decide)
                  · replace c_62 := cn_ne (a := 1) (b := 0) (by omega) (by omega) c_62
                    refine lv_iload hx hb dL_isUser_112 (lv_at hl 3 rfl) ?_
                    refine lv_iconst (v := 5) hx hb dL_isUser_114 (by decide) ?_
                    refine lv_icmp_ne (tgt := 122) hx hb dL_isUser_115 (by decide) (fun c_63 => ?_) (fun c_63 => ?_)
                    · replace c_63 := cn_ne (a := 2) (b := 5) (by omega) (by omega) c_63
                      refine lv_iconst (v := 0) hx hb dL_isUser_122 (by decide) ?_
                      refine lv_iload hx hb dL_isUser_123 (lv_at hl 2 rfl) ?_
                      refine lv_if_ne (tgt := 132) hx hb dL_isUser_125 (by decide) (fun c_64 => ?_) (fun c_64 => ?_)
                      · replace c_64 := cn_ne (a := 1) (b := 0) (by omega) (by omega) c_64
                        refine lv_iconst (v := 0) hx hb dL_isUser_132 (by decide) ?_
                        refine lv_icmp_ne (tgt := 204) hx hb dL_isUser_133 (by decide) (fun c_65 => ?_) (fun c_65 => ?_)
                        · exact absurd c_65 (by decide)
                        · replace c_65 := cn_eq (a := 0) (b := 0) (by omega) (by omega) c_65
                          refine lv_iload hx hb dL_isUser_136 (lv_at hl 3 rfl) ?_
                          refine lv_iconst (v := 4) hx hb dL_isUser_138 (by decide) ?_
                          refine lv_icmp_gt (tgt := 200) hx hb dL_isUser_139 (by decide) (fun c_66 => ?_) (fun c_66 => ?_)
                          · exact absurd c_66 (by decide)
                          · replace c_66 := cn_nlt (a := 4) (b := 2) (by omega) (by omega) c_66
                            refine lv_iload hx hb dL_isUser_142 (lv_at hl 3 rfl) ?_
                            refine lv_iconst (v := 2) hx hb dL_isUser_144 (by decide) ?_
                            refine lv_icmp_eq (tgt := 154) hx hb dL_isUser_145 (by decide) (fun c_67 => ?_) (fun c_67 => ?_)
                            · replace c_67 := cn_eq (a := 2) (b := 2) (by omega) (by omega) c_67
                              refine lv_iconst (v := 1) hx hb dL_isUser_154 (by decide) ?_
                              refine lv_goto (tgt := 159) hx hb dL_isUser_155 (by decide) ?_
                              refine lv_iload hx hb dL_isUser_159 (lv_at hl 1 rfl) ?_
                              refine lv_if_ne (tgt := 168) hx hb dL_isUser_161 (by decide) (fun c_68 => ?_) (fun c_68 => ?_)
                              · exact absurd c_68 (by decide)
                              · replace c_68 := cn_eq (a := 0) (b := 0) (by omega) (by omega) c_68
                                refine lv_iconst (v := 1) hx hb dL_isUser_164 (by decide) ?_
                                refine lv_goto (tgt := 169) hx hb dL_isUser_165 (by decide) ?_
                                refine lv_icmp_ne (tgt := 204) hx hb dL_isUser_169 (by decide) (fun c_69 => ?_) (fun c_69 => ?_)
                                · exact absurd c_69 (by decide)
                                · replace c_69 := cn_eq (a := 1) (b := 1) (by omega) (by omega) c_69
                                  refine lv_iload hx hb dL_isUser_172 (lv_at hl 3 rfl) ?_
                                  refine lv_if_ne (tgt := 181) hx hb dL_isUser_174 (by decide) (fun c_70 => ?_) (fun c_70 => ?_)
                                  · replace c_70 := cn_ne (a := 2) (b := 0) (by omega) (by omega) c_70
                                    refine lv_iconst (v := 0) hx hb dL_isUser_181 (by decide) ?_
                                    refine lv_iload hx hb dL_isUser_182 (lv_at hl 1 rfl) ?_
                                    refine lv_if_eq (tgt := 196) hx hb dL_isUser_184 (by decide) (fun c_71 => ?_) (fun c_71 => ?_)
                                    · replace c_71 := cn_eq (a := 0) (b := 0) (by omega) (by omega) c_71
                                      refine lv_iconst (v := 0) hx hb dL_isUser_196 (by decide) ?_
                                      refine lv_icmp_ne (tgt := 204) hx hb dL_isUser_197 (by decide) (fun c_72 => ?_) (fun c_72 => ?_)
                                      · exact absurd c_72 (by decide)
                                      · replace c_72 := cn_eq (a := 0) (b := 0) (by omega) (by omega) c_72
                                        refine lv_iconst (v := 1) hx hb dL_isUser_200 (by decide) ?_
                                        refine lv_goto (tgt := 205) hx hb dL_isUser_201 (by decide) ?_
                                        refine lv_istore (lv' := [(5, .int 1), (10, .int 0), (9, .int 0), (8, .int 1), (7, .int 2), (0, .ref (q 0)), (1, .int (nI u)), (2, .int (nI d)), (3, .int (nI o)), (4, .int y), (6, .int (nI k))]) hx hb dL_isUser_205 hl (by decide) rfl (fun ls hl => ?_)
                                        refine lv_iload hx hb dL_isUser_207 (lv_at hl 4 rfl) ?_
                                        refine lv_iconst (v := 1) hx hb dL_isUser_209 (by decide) ?_
                                        refine lv_icmp_le (tgt := 229) hx hb dL_isUser_210 (by decide) (fun c_73 => ?_) (fun c_73 => ?_)
                                        · exact absurd c_73 (by decide)
                                        · replace c_73 := cn_nle (a := 2) (b := 1) (by omega) (by omega) c_73
                                          refine lv_iload hx hb dL_isUser_213 (lv_at hl 4 rfl) ?_
                                          refine lv_iconst (v := 5) hx hb dL_isUser_215 (by decide) ?_
                                          refine lv_icmp_ge (tgt := 229) hx hb dL_isUser_216 (by decide) (fun c_74 => ?_) (fun c_74 => ?_)
                                          · exact absurd c_74 (by decide)
                                          · replace c_74 := cn_nle (a := 5) (b := 2) (by omega) (by omega) c_74
                                            refine lv_iload hx hb dL_isUser_219 (lv_at hl 9 rfl) ?_
                                            refine lv_iconst (v := 1) hx hb dL_isUser_221 (by decide) ?_
                                            refine lv_iload hx hb dL_isUser_222 (lv_at hl 10 rfl) ?_
                                            refine lv_ishl hx hb dL_isUser_224 ?_
                                            refine lv_ior hx hb dL_isUser_225 ?_
                                            refine lv_goto (tgt := 231) hx hb dL_isUser_226 (by decide) ?_
                                            refine lv_istore (lv' := [(4, .int (y ||| (1 <<< ((nI k) &&& 31)))), (5, .int 1), (10, .int 0), (9, .int 0), (8, .int 1), (7, .int 2), (0, .ref (q 0)), (1, .int (nI u)), (2, .int (nI d)), (3, .int (nI o)), (6, .int (nI k))]) hx hb dL_isUser_231 hl (by decide) rfl (fun ls hl => ?_)
                                            refine lv_iinc (v := (nI (k + 1))) (lv' := [(6, .int (nI (k + 1))), (4, .int (y ||| (1 <<< ((nI k) &&& 31)))), (5, .int 1), (10, .int 0), (9, .int 0), (8, .int 1), (7, .int 2), (0, .ref (q 0)), (1, .int (nI u)), (2, .int (nI d)), (3, .int (nI o))]) hx hb dL_isUser_233 hl (k := 10) rfl (nI_inc k) (by decide) rfl (fun ls hl => ?_)
                                            refine lv_goto (tgt := 16) hx hb dL_isUser_236 (by decide) ?_
                                            exact ih16 (k + 1) (y ||| (1 <<< ((nI k) &&& 31))) (by omega) (by omega) (by rw [hy, msU, if_pos ⟨hU, by rw [hs]; decide⟩]) _ (lv_sub hl [7, 8, 9, 10, 1, 2, 0] rfl)
                                    · exact absurd c_71 (by decide)
                                  · exact absurd c_70 (by decide)
                            · exact absurd c_67 (by decide)
                      · exact absurd c_64 (by decide)
                    · exact absurd c_63 (by decide)
                · exact absurd c_61 (by decide)
              · skip
                refine W.eq (g2 := F0 m 96 ls [.int 1]) (congrArg (fun z9 => F0 m 96 ls (.int z9 :: [])) ((and_cn (by omega)).trans (by rw [hV]; rfl))) ?_
                refine lv_iconst (v := 1) hx hb dL_isUser_96 (by decide) ?_
                refine lv_icmp_ne (tgt := 104) hx hb dL_isUser_97 (by decide) (fun c_75 => ?_) (fun c_75 => ?_)
                · exact absurd c_75 (by decide)
                · replace c_75 := cn_eq (a := 1) (b := 1) (by omega) (by omega) c_75
                  refine lv_iconst (v := 1) hx hb dL_isUser_100 (by decide) ?_
                  refine lv_goto (tgt := 105) hx hb dL_isUser_101 (by decide) ?_
                  refine lv_istore (lv' := [(10, .int 1), (9, .int 0), (8, .int 1), (7, .int w), (0, .ref (q 0)), (1, .int (nI u)), (2, .int (nI d)), (3, .int (nI o)), (4, .int y), (5, .int 1), (6, .int (nI k))]) hx hb dL_isUser_105 hl (by decide) rfl (fun ls hl => ?_)
                  have hs : sv4 N Z o k (nI d) = 2 := by unfold sv4; rw [if_pos c_60]
                  obtain rfl : w = 2 := hw2.trans (by rw [if_pos hU, hs])
                  refine lv_iload hx hb dL_isUser_107 (lv_at hl 9 rfl) ?_
                  refine lv_if_eq (tgt := 204) hx hb dL_isUser_109 (by decide) (fun c_76 => ?_) (fun c_76 => ?_)
                  · exact absurd c_76 (by decide)
                  · replace c_76 := cn_ne (a := 1) (b := 0) (by omega) (by omega) c_76
                    refine lv_iload hx hb dL_isUser_112 (lv_at hl 3 rfl) ?_
                    refine lv_iconst (v := 5) hx hb dL_isUser_114 (by decide) ?_
                    refine lv_icmp_ne (tgt := 122) hx hb dL_isUser_115 (by decide) (fun c_77 => ?_) (fun c_77 => ?_)
                    · replace c_77 := cn_ne (a := 2) (b := 5) (by omega) (by omega) c_77
                      refine lv_iconst (v := 0) hx hb dL_isUser_122 (by decide) ?_
                      refine lv_iload hx hb dL_isUser_123 (lv_at hl 2 rfl) ?_
                      refine lv_if_ne (tgt := 132) hx hb dL_isUser_125 (by decide) (fun c_78 => ?_) (fun c_78 => ?_)
                      · replace c_78 := cn_ne (a := 1) (b := 0) (by omega) (by omega) c_78
                        refine lv_iconst (v := 0) hx hb dL_isUser_132 (by decide) ?_
                        refine lv_icmp_ne (tgt := 204) hx hb dL_isUser_133 (by decide) (fun c_79 => ?_) (fun c_79 => ?_)
                        · exact absurd c_79 (by decide)
                        · replace c_79 := cn_eq (a := 0) (b := 0) (by omega) (by omega) c_79
                          refine lv_iload hx hb dL_isUser_136 (lv_at hl 3 rfl) ?_
                          refine lv_iconst (v := 4) hx hb dL_isUser_138 (by decide) ?_
                          refine lv_icmp_gt (tgt := 200) hx hb dL_isUser_139 (by decide) (fun c_80 => ?_) (fun c_80 => ?_)
                          · exact absurd c_80 (by decide)
                          · replace c_80 := cn_nlt (a := 4) (b := 2) (by omega) (by omega) c_80
                            refine lv_iload hx hb dL_isUser_142 (lv_at hl 3 rfl) ?_
                            refine lv_iconst (v := 2) hx hb dL_isUser_144 (by decide) ?_
                            refine lv_icmp_eq (tgt := 154) hx hb dL_isUser_145 (by decide) (fun c_81 => ?_) (fun c_81 => ?_)
                            · replace c_81 := cn_eq (a := 2) (b := 2) (by omega) (by omega) c_81
                              refine lv_iconst (v := 1) hx hb dL_isUser_154 (by decide) ?_
                              refine lv_goto (tgt := 159) hx hb dL_isUser_155 (by decide) ?_
                              refine lv_iload hx hb dL_isUser_159 (lv_at hl 1 rfl) ?_
                              refine lv_if_ne (tgt := 168) hx hb dL_isUser_161 (by decide) (fun c_82 => ?_) (fun c_82 => ?_)
                              · exact absurd c_82 (by decide)
                              · replace c_82 := cn_eq (a := 0) (b := 0) (by omega) (by omega) c_82
                                refine lv_iconst (v := 1) hx hb dL_isUser_164 (by decide) ?_
                                refine lv_goto (tgt := 169) hx hb dL_isUser_165 (by decide) ?_
                                refine lv_icmp_ne (tgt := 204) hx hb dL_isUser_169 (by decide) (fun c_83 => ?_) (fun c_83 => ?_)
                                · exact absurd c_83 (by decide)
                                · replace c_83 := cn_eq (a := 1) (b := 1) (by omega) (by omega) c_83
                                  refine lv_iload hx hb dL_isUser_172 (lv_at hl 3 rfl) ?_
                                  refine lv_if_ne (tgt := 181) hx hb dL_isUser_174 (by decide) (fun c_84 => ?_) (fun c_84 => ?_)
                                  · replace c_84 := cn_ne (a := 2) (b := 0) (by omega) (by omega) c_84
                                    refine lv_iconst (v := 0) hx hb dL_isUser_181 (by decide) ?_
                                    refine lv_iload hx hb dL_isUser_182 (lv_at hl 1 rfl) ?_
                                    refine lv_if_eq (tgt := 196) hx hb dL_isUser_184 (by decide) (fun c_85 => ?_) (fun c_85 => ?_)
                                    · replace c_85 := cn_eq (a := 0) (b := 0) (by omega) (by omega) c_85
                                      refine lv_iconst (v := 0) hx hb dL_isUser_196 (by decide) ?_
                                      refine lv_icmp_ne (tgt := 204) hx hb dL_isUser_197 (by decide) (fun c_86 => ?_) (fun c_86 => ?_)
                                      · exact absurd c_86 (by decide)
                                      · replace c_86 := cn_eq (a := 0) (b := 0) (by omega) (by omega) c_86
                                        refine lv_iconst (v := 1) hx hb dL_isUser_200 (by decide) ?_
                                        refine lv_goto (tgt := 205) hx hb dL_isUser_201 (by decide) ?_
                                        refine lv_istore (lv' := [(5, .int 1), (10, .int 1), (9, .int 0), (8, .int 1), (7, .int 2), (0, .ref (q 0)), (1, .int (nI u)), (2, .int (nI d)), (3, .int (nI o)), (4, .int y), (6, .int (nI k))]) hx hb dL_isUser_205 hl (by decide) rfl (fun ls hl => ?_)
                                        refine lv_iload hx hb dL_isUser_207 (lv_at hl 4 rfl) ?_
                                        refine lv_iconst (v := 1) hx hb dL_isUser_209 (by decide) ?_
                                        refine lv_icmp_le (tgt := 229) hx hb dL_isUser_210 (by decide) (fun c_87 => ?_) (fun c_87 => ?_)
                                        · exact absurd c_87 (by decide)
                                        · replace c_87 := cn_nle (a := 2) (b := 1) (by omega) (by omega) c_87
                                          refine lv_iload hx hb dL_isUser_213 (lv_at hl 4 rfl) ?_
                                          refine lv_iconst (v := 5) hx hb dL_isUser_215 (by decide) ?_
                                          refine lv_icmp_ge (tgt := 229) hx hb dL_isUser_216 (by decide) (fun c_88 => ?_) (fun c_88 => ?_)
                                          · exact absurd c_88 (by decide)
                                          · replace c_88 := cn_nle (a := 5) (b := 2) (by omega) (by omega) c_88
                                            refine lv_iload hx hb dL_isUser_219 (lv_at hl 9 rfl) ?_
                                            refine lv_iconst (v := 1) hx hb dL_isUser_221 (by decide) ?_
                                            refine lv_iload hx hb dL_isUser_222 (lv_at hl 10 rfl) ?_
                                            refine lv_ishl hx hb dL_isUser_224 ?_
                                            refine lv_ior hx hb dL_isUser_225 ?_
                                            refine lv_goto (tgt := 231) hx hb dL_isUser_226 (by decide) ?_
                                            refine lv_istore (lv' := [(4, .int (y ||| (1 <<< ((nI k) &&& 31)))), (5, .int 1), (10, .int 1), (9, .int 0), (8, .int 1), (7, .int 2), (0, .ref (q 0)), (1, .int (nI u)), (2, .int (nI d)), (3, .int (nI o)), (6, .int (nI k))]) hx hb dL_isUser_231 hl (by decide) rfl (fun ls hl => ?_)
                                            refine lv_iinc (v := (nI (k + 1))) (lv' := [(6, .int (nI (k + 1))), (4, .int (y ||| (1 <<< ((nI k) &&& 31)))), (5, .int 1), (10, .int 1), (9, .int 0), (8, .int 1), (7, .int 2), (0, .ref (q 0)), (1, .int (nI u)), (2, .int (nI d)), (3, .int (nI o))]) hx hb dL_isUser_233 hl (k := 10) rfl (nI_inc k) (by decide) rfl (fun ls hl => ?_)
                                            refine lv_goto (tgt := 16) hx hb dL_isUser_236 (by decide) ?_
                                            exact ih16 (k + 1) (y ||| (1 <<< ((nI k) &&& 31))) (by omega) (by omega) (by rw [hy, msU, if_pos ⟨hU, by rw [hs]; decide⟩]) _ (lv_sub hl [7, 8, 9, 10, 1, 2, 0] rfl)
                                    · exact absurd c_85 (by decide)
                                  · exact absurd c_84 (by decide)
                            · exact absurd c_81 (by decide)
                      · exact absurd c_78 (by decide)
                    · exact absurd c_77 (by decide)
            · have c_60n := Int32.not_lt.mp c_60
              refine lv_iload_n hx hb dL_isUser_68 rfl (lv_at hl 4 rfl) ?_
              refine lv_aload_n hx hb dL_isUser_69 rfl (lv_at hl 2 rfl) ?_
              refine lv_iload_n hx hb dL_isUser_70 rfl (lv_at hl 5 rfl) ?_
              refine lv_iconst (v := 1) hx hb dL_isUser_71 (by decide) ?_
              refine rn_V S hkx hth (nX5_version l hl0 (sa := sa) (h9 := (fun _ h => h)) (hP := hP) (hwf := hwf) (hv := (by omega)) (hw := (by omega)) (v := o) (w := 1)) gL_isUser_X5_version rfl idX5_version ⟨Nat.le_of_ble_eq_true rfl, Nat.le_of_ble_eq_true rfl⟩ hP 0 rfl rfl rfl rfl hl.1 rfl (Nat.le_of_ble_eq_true rfl) dL_isUser_72 ⟨Nat.le_of_ble_eq_true rfl, Nat.le_of_ble_eq_true rfl⟩ (fun v9 hv9 => ?_)
              subst hv9
              refine W.eq (g2 := F0 m 75 ls [.int (Z 2 o), .int (nI d)]) rfl ?_
              refine lv_icmp_ge (tgt := 82) hx hb dL_isUser_75 (by decide) (fun c_89 => ?_) (fun c_89 => ?_)
              · have c_89n := Int32.not_lt.mpr c_89
                refine lv_iconst (v := 0) hx hb dL_isUser_82 (by decide) ?_
                refine lv_istore (lv' := [(9, .int 0), (8, .int 1), (7, .int w), (0, .ref (q 0)), (1, .int (nI u)), (2, .int (nI d)), (3, .int (nI o)), (4, .int y), (5, .int 1), (6, .int (nI k))]) hx hb dL_isUser_83 hl (by decide) rfl (fun ls hl => ?_)
                refine lv_aload_n hx hb dL_isUser_85 rfl (lv_at hl 3 rfl) ?_
                refine lv_iload_n hx hb dL_isUser_86 rfl (lv_at hl 6 rfl) ?_
                refine lv_iconst (v := 2) hx hb dL_isUser_87 (by decide) ?_
                refine rn_V S hkx hth (nX5_version l hl0 (sa := sa) (h9 := (fun _ h => h)) (hP := hP) (hwf := hwf) (hv := (by omega)) (hw := (by omega)) (v := o) (w := 2)) gL_isUser_X5_version rfl idX5_version ⟨Nat.le_of_ble_eq_true rfl, Nat.le_of_ble_eq_true rfl⟩ hP 0 rfl rfl rfl rfl hl.1 rfl (Nat.le_of_ble_eq_true rfl) dL_isUser_88 ⟨Nat.le_of_ble_eq_true rfl, Nat.le_of_ble_eq_true rfl⟩ (fun v9 hv9 => ?_)
                subst hv9
                refine W.eq (g2 := F0 m 91 ls [.int (Z 4 o)]) rfl ?_
                refine lv_iload hx hb dL_isUser_91 (lv_at hl 9 rfl) ?_
                refine lv_ishr hx hb dL_isUser_93 ?_
                refine lv_iconst (v := 1) hx hb dL_isUser_94 (by decide) ?_
                refine lv_iand hx hb dL_isUser_95 ?_
                cases hV : cnt1 (Z 4 o) (nI k)
                · skip
                  refine W.eq (g2 := F0 m 96 ls [.int 0]) (congrArg (fun z9 => F0 m 96 ls (.int z9 :: [])) ((and_cn (by omega)).trans (by rw [hV]; rfl))) ?_
                  refine lv_iconst (v := 1) hx hb dL_isUser_96 (by decide) ?_
                  refine lv_icmp_ne (tgt := 104) hx hb dL_isUser_97 (by decide) (fun c_90 => ?_) (fun c_90 => ?_)
                  · replace c_90 := cn_ne (a := 0) (b := 1) (by omega) (by omega) c_90
                    refine lv_iconst (v := 0) hx hb dL_isUser_104 (by decide) ?_
                    refine lv_istore (lv' := [(10, .int 0), (9, .int 0), (8, .int 1), (7, .int w), (0, .ref (q 0)), (1, .int (nI u)), (2, .int (nI d)), (3, .int (nI o)), (4, .int y), (5, .int 1), (6, .int (nI k))]) hx hb dL_isUser_105 hl (by decide) rfl (fun ls hl => ?_)
                    have hs : sv4 N Z o k (nI d) = 3 := by unfold sv4; rw [if_neg c_60, if_pos c_89]
                    obtain rfl : w = 3 := hw2.trans (by rw [if_pos hU, hs])
                    refine lv_iload hx hb dL_isUser_107 (lv_at hl 9 rfl) ?_
                    refine lv_if_eq (tgt := 204) hx hb dL_isUser_109 (by decide) (fun c_91 => ?_) (fun c_91 => ?_)
                    · exact absurd c_91 (by decide)
                    · replace c_91 := cn_ne (a := 1) (b := 0) (by omega) (by omega) c_91
                      refine lv_iload hx hb dL_isUser_112 (lv_at hl 3 rfl) ?_
                      refine lv_iconst (v := 5) hx hb dL_isUser_114 (by decide) ?_
                      refine lv_icmp_ne (tgt := 122) hx hb dL_isUser_115 (by decide) (fun c_92 => ?_) (fun c_92 => ?_)
                      · replace c_92 := cn_ne (a := 3) (b := 5) (by omega) (by omega) c_92
                        refine lv_iconst (v := 0) hx hb dL_isUser_122 (by decide) ?_
                        refine lv_iload hx hb dL_isUser_123 (lv_at hl 2 rfl) ?_
                        refine lv_if_ne (tgt := 132) hx hb dL_isUser_125 (by decide) (fun c_93 => ?_) (fun c_93 => ?_)
                        · replace c_93 := cn_ne (a := 1) (b := 0) (by omega) (by omega) c_93
                          refine lv_iconst (v := 0) hx hb dL_isUser_132 (by decide) ?_
                          refine lv_icmp_ne (tgt := 204) hx hb dL_isUser_133 (by decide) (fun c_94 => ?_) (fun c_94 => ?_)
                          · exact absurd c_94 (by decide)
                          · replace c_94 := cn_eq (a := 0) (b := 0) (by omega) (by omega) c_94
                            refine lv_iload hx hb dL_isUser_136 (lv_at hl 3 rfl) ?_
                            refine lv_iconst (v := 4) hx hb dL_isUser_138 (by decide) ?_
                            refine lv_icmp_gt (tgt := 200) hx hb dL_isUser_139 (by decide) (fun c_95 => ?_) (fun c_95 => ?_)
                            · exact absurd c_95 (by decide)
                            · replace c_95 := cn_nlt (a := 4) (b := 3) (by omega) (by omega) c_95
                              refine lv_iload hx hb dL_isUser_142 (lv_at hl 3 rfl) ?_
                              refine lv_iconst (v := 2) hx hb dL_isUser_144 (by decide) ?_
                              refine lv_icmp_eq (tgt := 154) hx hb dL_isUser_145 (by decide) (fun c_96 => ?_) (fun c_96 => ?_)
                              · exact absurd c_96 (by decide)
                              · replace c_96 := cn_ne (a := 3) (b := 2) (by omega) (by omega) c_96
                                refine lv_iload hx hb dL_isUser_148 (lv_at hl 3 rfl) ?_
                                refine lv_iconst (v := 3) hx hb dL_isUser_150 (by decide) ?_
                                refine lv_icmp_ne (tgt := 158) hx hb dL_isUser_151 (by decide) (fun c_97 => ?_) (fun c_97 => ?_)
                                · exact absurd c_97 (by decide)
                                · replace c_97 := cn_eq (a := 3) (b := 3) (by omega) (by omega) c_97
                                  refine lv_iconst (v := 1) hx hb dL_isUser_154 (by decide) ?_
                                  refine lv_goto (tgt := 159) hx hb dL_isUser_155 (by decide) ?_
                                  refine lv_iload hx hb dL_isUser_159 (lv_at hl 1 rfl) ?_
                                  refine lv_if_ne (tgt := 168) hx hb dL_isUser_161 (by decide) (fun c_98 => ?_) (fun c_98 => ?_)
                                  · exact absurd c_98 (by decide)
                                  · replace c_98 := cn_eq (a := 0) (b := 0) (by omega) (by omega) c_98
                                    refine lv_iconst (v := 1) hx hb dL_isUser_164 (by decide) ?_
                                    refine lv_goto (tgt := 169) hx hb dL_isUser_165 (by decide) ?_
                                    refine lv_icmp_ne (tgt := 204) hx hb dL_isUser_169 (by decide) (fun c_99 => ?_) (fun c_99 => ?_)
                                    · exact absurd c_99 (by decide)
                                    · replace c_99 := cn_eq (a := 1) (b := 1) (by omega) (by omega) c_99
                                      refine lv_iload hx hb dL_isUser_172 (lv_at hl 3 rfl) ?_
                                      refine lv_if_ne (tgt := 181) hx hb dL_isUser_174 (by decide) (fun c_100 => ?_) (fun c_100 => ?_)
                                      · replace c_100 := cn_ne (a := 3) (b := 0) (by omega) (by omega) c_100
                                        refine lv_iconst (v := 0) hx hb dL_isUser_181 (by decide) ?_
                                        refine lv_iload hx hb dL_isUser_182 (lv_at hl 1 rfl) ?_
                                        refine lv_if_eq (tgt := 196) hx hb dL_isUser_184 (by decide) (fun c_101 => ?_) (fun c_101 => ?_)
                                        · replace c_101 := cn_eq (a := 0) (b := 0) (by omega) (by omega) c_101
                                          refine lv_iconst (v := 0) hx hb dL_isUser_196 (by decide) ?_
                                          refine lv_icmp_ne (tgt := 204) hx hb dL_isUser_197 (by decide) (fun c_102 => ?_) (fun c_102 => ?_)
                                          · exact absurd c_102 (by decide)
                                          · replace c_102 := cn_eq (a := 0) (b := 0) (by omega) (by omega) c_102
                                            refine lv_iconst (v := 1) hx hb dL_isUser_200 (by decide) ?_
                                            refine lv_goto (tgt := 205) hx hb dL_isUser_201 (by decide) ?_
                                            refine lv_istore (lv' := [(5, .int 1), (10, .int 0), (9, .int 0), (8, .int 1), (7, .int 3), (0, .ref (q 0)), (1, .int (nI u)), (2, .int (nI d)), (3, .int (nI o)), (4, .int y), (6, .int (nI k))]) hx hb dL_isUser_205 hl (by decide) rfl (fun ls hl => ?_)
                                            refine lv_iload hx hb dL_isUser_207 (lv_at hl 4 rfl) ?_
                                            refine lv_iconst (v := 1) hx hb dL_isUser_209 (by decide) ?_
                                            refine lv_icmp_le (tgt := 229) hx hb dL_isUser_210 (by decide) (fun c_103 => ?_) (fun c_103 => ?_)
                                            · exact absurd c_103 (by decide)
                                            · replace c_103 := cn_nle (a := 3) (b := 1) (by omega) (by omega) c_103
                                              refine lv_iload hx hb dL_isUser_213 (lv_at hl 4 rfl) ?_
                                              refine lv_iconst (v := 5) hx hb dL_isUser_215 (by decide) ?_
                                              refine lv_icmp_ge (tgt := 229) hx hb dL_isUser_216 (by decide) (fun c_104 => ?_) (fun c_104 => ?_)
                                              · exact absurd c_104 (by decide)
                                              · replace c_104 := cn_nle (a := 5) (b := 3) (by omega) (by omega) c_104
                                                refine lv_iload hx hb dL_isUser_219 (lv_at hl 9 rfl) ?_
                                                refine lv_iconst (v := 1) hx hb dL_isUser_221 (by decide) ?_
                                                refine lv_iload hx hb dL_isUser_222 (lv_at hl 10 rfl) ?_
                                                refine lv_ishl hx hb dL_isUser_224 ?_
                                                refine lv_ior hx hb dL_isUser_225 ?_
                                                refine lv_goto (tgt := 231) hx hb dL_isUser_226 (by decide) ?_
                                                refine lv_istore (lv' := [(4, .int (y ||| (1 <<< ((nI k) &&& 31)))), (5, .int 1), (10, .int 0), (9, .int 0), (8, .int 1), (7, .int 3), (0, .ref (q 0)), (1, .int (nI u)), (2, .int (nI d)), (3, .int (nI o)), (6, .int (nI k))]) hx hb dL_isUser_231 hl (by decide) rfl (fun ls hl => ?_)
                                                refine lv_iinc (v := (nI (k + 1))) (lv' := [(6, .int (nI (k + 1))), (4, .int (y ||| (1 <<< ((nI k) &&& 31)))), (5, .int 1), (10, .int 0), (9, .int 0), (8, .int 1), (7, .int 3), (0, .ref (q 0)), (1, .int (nI u)), (2, .int (nI d)), (3, .int (nI o))]) hx hb dL_isUser_233 hl (k := 10) rfl (nI_inc k) (by decide) rfl (fun ls hl => ?_)
                                                refine lv_goto (tgt := 16) hx hb dL_isUser_236 (by decide) ?_
                                                exact ih16 (k + 1) (y ||| (1 <<< ((nI k) &&& 31))) (by omega) (by omega) (by rw [hy, msU, if_pos ⟨hU, by rw [hs]; decide⟩]) _ (lv_sub hl [7, 8, 9, 10, 1, 2, 0] rfl)
                                        · exact absurd c_101 (by decide)
                                      · exact absurd c_100 (by decide)
                        · exact absurd c_93 (by decide)
                      · exact absurd c_92 (by decide)
                  · exact absurd c_90 (by decide)
                · skip
                  refine W.eq (g2 := F0 m 96 ls [.int 1]) (congrArg (fun z9 => F0 m 96 ls (.int z9 :: [])) ((and_cn (by omega)).trans (by rw [hV]; rfl))) ?_
                  refine lv_iconst (v := 1) hx hb dL_isUser_96 (by decide) ?_
                  refine lv_icmp_ne (tgt := 104) hx hb dL_isUser_97 (by decide) (fun c_105 => ?_) (fun c_105 => ?_)
                  · exact absurd c_105 (by decide)
                  · replace c_105 := cn_eq (a := 1) (b := 1) (by omega) (by omega) c_105
                    refine lv_iconst (v := 1) hx hb dL_isUser_100 (by decide) ?_
                    refine lv_goto (tgt := 105) hx hb dL_isUser_101 (by decide) ?_
                    refine lv_istore (lv' := [(10, .int 1), (9, .int 0), (8, .int 1), (7, .int w), (0, .ref (q 0)), (1, .int (nI u)), (2, .int (nI d)), (3, .int (nI o)), (4, .int y), (5, .int 1), (6, .int (nI k))]) hx hb dL_isUser_105 hl (by decide) rfl (fun ls hl => ?_)
                    have hs : sv4 N Z o k (nI d) = 3 := by unfold sv4; rw [if_neg c_60, if_pos c_89]
                    obtain rfl : w = 3 := hw2.trans (by rw [if_pos hU, hs])
                    refine lv_iload hx hb dL_isUser_107 (lv_at hl 9 rfl) ?_
                    refine lv_if_eq (tgt := 204) hx hb dL_isUser_109 (by decide) (fun c_106 => ?_) (fun c_106 => ?_)
                    · exact absurd c_106 (by decide)
                    · replace c_106 := cn_ne (a := 1) (b := 0) (by omega) (by omega) c_106
                      refine lv_iload hx hb dL_isUser_112 (lv_at hl 3 rfl) ?_
                      refine lv_iconst (v := 5) hx hb dL_isUser_114 (by decide) ?_
                      refine lv_icmp_ne (tgt := 122) hx hb dL_isUser_115 (by decide) (fun c_107 => ?_) (fun c_107 => ?_)
                      · replace c_107 := cn_ne (a := 3) (b := 5) (by omega) (by omega) c_107
                        refine lv_iconst (v := 0) hx hb dL_isUser_122 (by decide) ?_
                        refine lv_iload hx hb dL_isUser_123 (lv_at hl 2 rfl) ?_
                        refine lv_if_ne (tgt := 132) hx hb dL_isUser_125 (by decide) (fun c_108 => ?_) (fun c_108 => ?_)
                        · replace c_108 := cn_ne (a := 1) (b := 0) (by omega) (by omega) c_108
                          refine lv_iconst (v := 0) hx hb dL_isUser_132 (by decide) ?_
                          refine lv_icmp_ne (tgt := 204) hx hb dL_isUser_133 (by decide) (fun c_109 => ?_) (fun c_109 => ?_)
                          · exact absurd c_109 (by decide)
                          · replace c_109 := cn_eq (a := 0) (b := 0) (by omega) (by omega) c_109
                            refine lv_iload hx hb dL_isUser_136 (lv_at hl 3 rfl) ?_
                            refine lv_iconst (v := 4) hx hb dL_isUser_138 (by decide) ?_
                            refine lv_icmp_gt (tgt := 200) hx hb dL_isUser_139 (by decide) (fun c_110 => ?_) (fun c_110 => ?_)
                            · exact absurd c_110 (by decide)
                            · replace c_110 := cn_nlt (a := 4) (b := 3) (by omega) (by omega) c_110
                              refine lv_iload hx hb dL_isUser_142 (lv_at hl 3 rfl) ?_
                              refine lv_iconst (v := 2) hx hb dL_isUser_144 (by decide) ?_
                              refine lv_icmp_eq (tgt := 154) hx hb dL_isUser_145 (by decide) (fun c_111 => ?_) (fun c_111 => ?_)
                              · exact absurd c_111 (by decide)
                              · replace c_111 := cn_ne (a := 3) (b := 2) (by omega) (by omega) c_111
                                refine lv_iload hx hb dL_isUser_148 (lv_at hl 3 rfl) ?_
                                refine lv_iconst (v := 3) hx hb dL_isUser_150 (by decide) ?_
                                refine lv_icmp_ne (tgt := 158) hx hb dL_isUser_151 (by decide) (fun c_112 => ?_) (fun c_112 => ?_)
                                · exact absurd c_112 (by decide)
                                · replace c_112 := cn_eq (a := 3) (b := 3) (by omega) (by omega) c_112
                                  refine lv_iconst (v := 1) hx hb dL_isUser_154 (by decide) ?_
                                  refine lv_goto (tgt := 159) hx hb dL_isUser_155 (by decide) ?_
                                  refine lv_iload hx hb dL_isUser_159 (lv_at hl 1 rfl) ?_
                                  refine lv_if_ne (tgt := 168) hx hb dL_isUser_161 (by decide) (fun c_113 => ?_) (fun c_113 => ?_)
                                  · exact absurd c_113 (by decide)
                                  · replace c_113 := cn_eq (a := 0) (b := 0) (by omega) (by omega) c_113
                                    refine lv_iconst (v := 1) hx hb dL_isUser_164 (by decide) ?_
                                    refine lv_goto (tgt := 169) hx hb dL_isUser_165 (by decide) ?_
                                    refine lv_icmp_ne (tgt := 204) hx hb dL_isUser_169 (by decide) (fun c_114 => ?_) (fun c_114 => ?_)
                                    · exact absurd c_114 (by decide)
                                    · replace c_114 := cn_eq (a := 1) (b := 1) (by omega) (by omega) c_114
                                      refine lv_iload hx hb dL_isUser_172 (lv_at hl 3 rfl) ?_
                                      refine lv_if_ne (tgt := 181) hx hb dL_isUser_174 (by decide) (fun c_115 => ?_) (fun c_115 => ?_)
                                      · replace c_115 := cn_ne (a := 3) (b := 0) (by omega) (by omega) c_115
                                        refine lv_iconst (v := 0) hx hb dL_isUser_181 (by decide) ?_
                                        refine lv_iload hx hb dL_isUser_182 (lv_at hl 1 rfl) ?_
                                        refine lv_if_eq (tgt := 196) hx hb dL_isUser_184 (by decide) (fun c_116 => ?_) (fun c_116 => ?_)
                                        · replace c_116 := cn_eq (a := 0) (b := 0) (by omega) (by omega) c_116
                                          refine lv_iconst (v := 0) hx hb dL_isUser_196 (by decide) ?_
                                          refine lv_icmp_ne (tgt := 204) hx hb dL_isUser_197 (by decide) (fun c_117 => ?_) (fun c_117 => ?_)
                                          · exact absurd c_117 (by decide)
                                          · replace c_117 := cn_eq (a := 0) (b := 0) (by omega) (by omega) c_117
                                            refine lv_iconst (v := 1) hx hb dL_isUser_200 (by decide) ?_
                                            refine lv_goto (tgt := 205) hx hb dL_isUser_201 (by decide) ?_
                                            refine lv_istore (lv' := [(5, .int 1), (10, .int 1), (9, .int 0), (8, .int 1), (7, .int 3), (0, .ref (q 0)), (1, .int (nI u)), (2, .int (nI d)), (3, .int (nI o)), (4, .int y), (6, .int (nI k))]) hx hb dL_isUser_205 hl (by decide) rfl (fun ls hl => ?_)
                                            refine lv_iload hx hb dL_isUser_207 (lv_at hl 4 rfl) ?_
                                            refine lv_iconst (v := 1) hx hb dL_isUser_209 (by decide) ?_
                                            refine lv_icmp_le (tgt := 229) hx hb dL_isUser_210 (by decide) (fun c_118 => ?_) (fun c_118 => ?_)
                                            · exact absurd c_118 (by decide)
                                            · replace c_118 := cn_nle (a := 3) (b := 1) (by omega) (by omega) c_118
                                              refine lv_iload hx hb dL_isUser_213 (lv_at hl 4 rfl) ?_
                                              refine lv_iconst (v := 5) hx hb dL_isUser_215 (by decide) ?_
                                              refine lv_icmp_ge (tgt := 229) hx hb dL_isUser_216 (by decide) (fun c_119 => ?_) (fun c_119 => ?_)
                                              · exact absurd c_119 (by decide)
                                              · replace c_119 := cn_nle (a := 5) (b := 3) (by omega) (by omega) c_119
                                                refine lv_iload hx hb dL_isUser_219 (lv_at hl 9 rfl) ?_
                                                refine lv_iconst (v := 1) hx hb dL_isUser_221 (by decide) ?_
                                                refine lv_iload hx hb dL_isUser_222 (lv_at hl 10 rfl) ?_
                                                refine lv_ishl hx hb dL_isUser_224 ?_
                                                refine lv_ior hx hb dL_isUser_225 ?_
                                                refine lv_goto (tgt := 231) hx hb dL_isUser_226 (by decide) ?_
                                                refine lv_istore (lv' := [(4, .int (y ||| (1 <<< ((nI k) &&& 31)))), (5, .int 1), (10, .int 1), (9, .int 0), (8, .int 1), (7, .int 3), (0, .ref (q 0)), (1, .int (nI u)), (2, .int (nI d)), (3, .int (nI o)), (6, .int (nI k))]) hx hb dL_isUser_231 hl (by decide) rfl (fun ls hl => ?_)
                                                refine lv_iinc (v := (nI (k + 1))) (lv' := [(6, .int (nI (k + 1))), (4, .int (y ||| (1 <<< ((nI k) &&& 31)))), (5, .int 1), (10, .int 1), (9, .int 0), (8, .int 1), (7, .int 3), (0, .ref (q 0)), (1, .int (nI u)), (2, .int (nI d)), (3, .int (nI o))]) hx hb dL_isUser_233 hl (k := 10) rfl (nI_inc k) (by decide) rfl (fun ls hl => ?_)
                                                refine lv_goto (tgt := 16) hx hb dL_isUser_236 (by decide) ?_
                                                exact ih16 (k + 1) (y ||| (1 <<< ((nI k) &&& 31))) (by omega) (by omega) (by rw [hy, msU, if_pos ⟨hU, by rw [hs]; decide⟩]) _ (lv_sub hl [7, 8, 9, 10, 1, 2, 0] rfl)
                                        · exact absurd c_116 (by decide)
                                      · exact absurd c_115 (by decide)
                        · exact absurd c_108 (by decide)
                      · exact absurd c_107 (by decide)
              · have c_89n := Int32.not_le.mp c_89
                refine lv_iconst (v := 1) hx hb dL_isUser_78 (by decide) ?_
                refine lv_goto (tgt := 83) hx hb dL_isUser_79 (by decide) ?_
                refine lv_istore (lv' := [(9, .int 1), (8, .int 1), (7, .int w), (0, .ref (q 0)), (1, .int (nI u)), (2, .int (nI d)), (3, .int (nI o)), (4, .int y), (5, .int 1), (6, .int (nI k))]) hx hb dL_isUser_83 hl (by decide) rfl (fun ls hl => ?_)
                refine lv_aload_n hx hb dL_isUser_85 rfl (lv_at hl 3 rfl) ?_
                refine lv_iload_n hx hb dL_isUser_86 rfl (lv_at hl 6 rfl) ?_
                refine lv_iconst (v := 2) hx hb dL_isUser_87 (by decide) ?_
                refine rn_V S hkx hth (nX5_version l hl0 (sa := sa) (h9 := (fun _ h => h)) (hP := hP) (hwf := hwf) (hv := (by omega)) (hw := (by omega)) (v := o) (w := 2)) gL_isUser_X5_version rfl idX5_version ⟨Nat.le_of_ble_eq_true rfl, Nat.le_of_ble_eq_true rfl⟩ hP 0 rfl rfl rfl rfl hl.1 rfl (Nat.le_of_ble_eq_true rfl) dL_isUser_88 ⟨Nat.le_of_ble_eq_true rfl, Nat.le_of_ble_eq_true rfl⟩ (fun v9 hv9 => ?_)
                subst hv9
                refine W.eq (g2 := F0 m 91 ls [.int (Z 4 o)]) rfl ?_
                refine lv_iload hx hb dL_isUser_91 (lv_at hl 9 rfl) ?_
                refine lv_ishr hx hb dL_isUser_93 ?_
                refine lv_iconst (v := 1) hx hb dL_isUser_94 (by decide) ?_
                refine lv_iand hx hb dL_isUser_95 ?_
                cases hV : cnt1 (Z 4 o) (nI k)
                · skip
                  refine W.eq (g2 := F0 m 96 ls [.int 0]) (congrArg (fun z9 => F0 m 96 ls (.int z9 :: [])) ((and_cn (by omega)).trans (by rw [hV]; rfl))) ?_
                  refine lv_iconst (v := 1) hx hb dL_isUser_96 (by decide) ?_
                  refine lv_icmp_ne (tgt := 104) hx hb dL_isUser_97 (by decide) (fun c_120 => ?_) (fun c_120 => ?_)
                  · replace c_120 := cn_ne (a := 0) (b := 1) (by omega) (by omega) c_120
                    refine lv_iconst (v := 0) hx hb dL_isUser_104 (by decide) ?_
                    refine lv_istore (lv' := [(10, .int 0), (9, .int 1), (8, .int 1), (7, .int w), (0, .ref (q 0)), (1, .int (nI u)), (2, .int (nI d)), (3, .int (nI o)), (4, .int y), (5, .int 1), (6, .int (nI k))]) hx hb dL_isUser_105 hl (by decide) rfl (fun ls hl => ?_)
                    by_cases hL : 0 < lowP Z (nI k) (nI o) (nI d) (N 3)
                    · skip
                      have hs : sv4 N Z o k (nI d) = 1 := by unfold sv4; rw [if_neg c_60, if_neg (show ¬ Z 2 o ≤ nI d from c_89), if_neg (by rw [hV]; decide), if_pos hL]
                      obtain rfl : w = 1 := hw2.trans (by rw [if_pos hU, hs])
                      refine lv_iload hx hb dL_isUser_107 (lv_at hl 9 rfl) ?_
                      refine lv_if_eq (tgt := 204) hx hb dL_isUser_109 (by decide) (fun c_121 => ?_) (fun c_121 => ?_)
                      · exact absurd c_121 (by decide)
                      · replace c_121 := cn_ne (a := 1) (b := 0) (by omega) (by omega) c_121
                        refine lv_iload hx hb dL_isUser_112 (lv_at hl 3 rfl) ?_
                        refine lv_iconst (v := 5) hx hb dL_isUser_114 (by decide) ?_
                        refine lv_icmp_ne (tgt := 122) hx hb dL_isUser_115 (by decide) (fun c_122 => ?_) (fun c_122 => ?_)
                        · replace c_122 := cn_ne (a := 1) (b := 5) (by omega) (by omega) c_122
                          refine lv_iconst (v := 0) hx hb dL_isUser_122 (by decide) ?_
                          refine lv_iload hx hb dL_isUser_123 (lv_at hl 2 rfl) ?_
                          refine lv_if_ne (tgt := 132) hx hb dL_isUser_125 (by decide) (fun c_123 => ?_) (fun c_123 => ?_)
                          · replace c_123 := cn_ne (a := 1) (b := 0) (by omega) (by omega) c_123
                            refine lv_iconst (v := 0) hx hb dL_isUser_132 (by decide) ?_
                            refine lv_icmp_ne (tgt := 204) hx hb dL_isUser_133 (by decide) (fun c_124 => ?_) (fun c_124 => ?_)
                            · exact absurd c_124 (by decide)
                            · replace c_124 := cn_eq (a := 0) (b := 0) (by omega) (by omega) c_124
                              refine lv_iload hx hb dL_isUser_136 (lv_at hl 3 rfl) ?_
                              refine lv_iconst (v := 4) hx hb dL_isUser_138 (by decide) ?_
                              refine lv_icmp_gt (tgt := 200) hx hb dL_isUser_139 (by decide) (fun c_125 => ?_) (fun c_125 => ?_)
                              · exact absurd c_125 (by decide)
                              · replace c_125 := cn_nlt (a := 4) (b := 1) (by omega) (by omega) c_125
                                refine lv_iload hx hb dL_isUser_142 (lv_at hl 3 rfl) ?_
                                refine lv_iconst (v := 2) hx hb dL_isUser_144 (by decide) ?_
                                refine lv_icmp_eq (tgt := 154) hx hb dL_isUser_145 (by decide) (fun c_126 => ?_) (fun c_126 => ?_)
                                · exact absurd c_126 (by decide)
                                · replace c_126 := cn_ne (a := 1) (b := 2) (by omega) (by omega) c_126
                                  refine lv_iload hx hb dL_isUser_148 (lv_at hl 3 rfl) ?_
                                  refine lv_iconst (v := 3) hx hb dL_isUser_150 (by decide) ?_
                                  refine lv_icmp_ne (tgt := 158) hx hb dL_isUser_151 (by decide) (fun c_127 => ?_) (fun c_127 => ?_)
                                  · replace c_127 := cn_ne (a := 1) (b := 3) (by omega) (by omega) c_127
                                    refine lv_iconst (v := 0) hx hb dL_isUser_158 (by decide) ?_
                                    refine lv_iload hx hb dL_isUser_159 (lv_at hl 1 rfl) ?_
                                    refine lv_if_ne (tgt := 168) hx hb dL_isUser_161 (by decide) (fun c_128 => ?_) (fun c_128 => ?_)
                                    · replace c_128 := cn_ne (a := 1) (b := 0) (by omega) (by omega) c_128
                                      refine lv_iconst (v := 0) hx hb dL_isUser_168 (by decide) ?_
                                      refine lv_icmp_ne (tgt := 204) hx hb dL_isUser_169 (by decide) (fun c_129 => ?_) (fun c_129 => ?_)
                                      · exact absurd c_129 (by decide)
                                      · replace c_129 := cn_eq (a := 0) (b := 0) (by omega) (by omega) c_129
                                        refine lv_iload hx hb dL_isUser_172 (lv_at hl 3 rfl) ?_
                                        refine lv_if_ne (tgt := 181) hx hb dL_isUser_174 (by decide) (fun c_130 => ?_) (fun c_130 => ?_)
                                        · replace c_130 := cn_ne (a := 1) (b := 0) (by omega) (by omega) c_130
                                          refine lv_iconst (v := 0) hx hb dL_isUser_181 (by decide) ?_
                                          refine lv_iload hx hb dL_isUser_182 (lv_at hl 1 rfl) ?_
                                          refine lv_if_eq (tgt := 196) hx hb dL_isUser_184 (by decide) (fun c_131 => ?_) (fun c_131 => ?_)
                                          · exact absurd c_131 (by decide)
                                          · replace c_131 := cn_ne (a := 1) (b := 0) (by omega) (by omega) c_131
                                            refine lv_iload hx hb dL_isUser_187 (lv_at hl 0 rfl) ?_
                                            refine lv_if_eq (tgt := 196) hx hb dL_isUser_189 (by decide) (fun c_132 => ?_) (fun c_132 => ?_)
                                            · replace c_132 := cn_eq (a := 0) (b := 0) (by omega) (by omega) c_132
                                              refine lv_iconst (v := 0) hx hb dL_isUser_196 (by decide) ?_
                                              refine lv_icmp_ne (tgt := 204) hx hb dL_isUser_197 (by decide) (fun c_133 => ?_) (fun c_133 => ?_)
                                              · exact absurd c_133 (by decide)
                                              · replace c_133 := cn_eq (a := 0) (b := 0) (by omega) (by omega) c_133
                                                refine lv_iconst (v := 1) hx hb dL_isUser_200 (by decide) ?_
                                                refine lv_goto (tgt := 205) hx hb dL_isUser_201 (by decide) ?_
                                                refine lv_istore (lv' := [(5, .int 1), (10, .int 0), (9, .int 1), (8, .int 1), (7, .int 1), (0, .ref (q 0)), (1, .int (nI u)), (2, .int (nI d)), (3, .int (nI o)), (4, .int y), (6, .int (nI k))]) hx hb dL_isUser_205 hl (by decide) rfl (fun ls hl => ?_)
                                                refine lv_iload hx hb dL_isUser_207 (lv_at hl 4 rfl) ?_
                                                refine lv_iconst (v := 1) hx hb dL_isUser_209 (by decide) ?_
                                                refine lv_icmp_le (tgt := 229) hx hb dL_isUser_210 (by decide) (fun c_134 => ?_) (fun c_134 => ?_)
                                                · replace c_134 := cn_le (a := 1) (b := 1) (by omega) (by omega) c_134
                                                  refine lv_iload hx hb dL_isUser_229 (lv_at hl 9 rfl) ?_
                                                  refine lv_istore (lv' := [(4, .int y), (5, .int 1), (10, .int 0), (9, .int 1), (8, .int 1), (7, .int 1), (0, .ref (q 0)), (1, .int (nI u)), (2, .int (nI d)), (3, .int (nI o)), (6, .int (nI k))]) hx hb dL_isUser_231 hl (by decide) rfl (fun ls hl => ?_)
                                                  refine lv_iinc (v := (nI (k + 1))) (lv' := [(6, .int (nI (k + 1))), (4, .int y), (5, .int 1), (10, .int 0), (9, .int 1), (8, .int 1), (7, .int 1), (0, .ref (q 0)), (1, .int (nI u)), (2, .int (nI d)), (3, .int (nI o))]) hx hb dL_isUser_233 hl (k := 10) rfl (nI_inc k) (by decide) rfl (fun ls hl => ?_)
                                                  refine lv_goto (tgt := 16) hx hb dL_isUser_236 (by decide) ?_
                                                  exact ih16 (k + 1) y (by omega) (by omega) (by rw [hy, msU, if_neg (fun q9 => absurd q9.2 (by rw [hs]; decide))]) _ (lv_sub hl [7, 8, 9, 10, 1, 2, 0] rfl)
                                                · exact absurd c_134 (by decide)
                                            · exact absurd c_132 (by decide)
                                        · exact absurd c_130 (by decide)
                                    · exact absurd c_128 (by decide)
                                  · exact absurd c_127 (by decide)
                          · exact absurd c_123 (by decide)
                        · exact absurd c_122 (by decide)
                    · skip
                      have hs : sv4 N Z o k (nI d) = 4 := by unfold sv4; rw [if_neg c_60, if_neg (show ¬ Z 2 o ≤ nI d from c_89), if_neg (by rw [hV]; decide), if_neg hL]
                      obtain rfl : w = 4 := hw2.trans (by rw [if_pos hU, hs])
                      refine lv_iload hx hb dL_isUser_107 (lv_at hl 9 rfl) ?_
                      refine lv_if_eq (tgt := 204) hx hb dL_isUser_109 (by decide) (fun c_135 => ?_) (fun c_135 => ?_)
                      · exact absurd c_135 (by decide)
                      · replace c_135 := cn_ne (a := 1) (b := 0) (by omega) (by omega) c_135
                        refine lv_iload hx hb dL_isUser_112 (lv_at hl 3 rfl) ?_
                        refine lv_iconst (v := 5) hx hb dL_isUser_114 (by decide) ?_
                        refine lv_icmp_ne (tgt := 122) hx hb dL_isUser_115 (by decide) (fun c_136 => ?_) (fun c_136 => ?_)
                        · replace c_136 := cn_ne (a := 4) (b := 5) (by omega) (by omega) c_136
                          refine lv_iconst (v := 0) hx hb dL_isUser_122 (by decide) ?_
                          refine lv_iload hx hb dL_isUser_123 (lv_at hl 2 rfl) ?_
                          refine lv_if_ne (tgt := 132) hx hb dL_isUser_125 (by decide) (fun c_137 => ?_) (fun c_137 => ?_)
                          · replace c_137 := cn_ne (a := 1) (b := 0) (by omega) (by omega) c_137
                            refine lv_iconst (v := 0) hx hb dL_isUser_132 (by decide) ?_
                            refine lv_icmp_ne (tgt := 204) hx hb dL_isUser_133 (by decide) (fun c_138 => ?_) (fun c_138 => ?_)
                            · exact absurd c_138 (by decide)
                            · replace c_138 := cn_eq (a := 0) (b := 0) (by omega) (by omega) c_138
                              refine lv_iload hx hb dL_isUser_136 (lv_at hl 3 rfl) ?_
                              refine lv_iconst (v := 4) hx hb dL_isUser_138 (by decide) ?_
                              refine lv_icmp_gt (tgt := 200) hx hb dL_isUser_139 (by decide) (fun c_139 => ?_) (fun c_139 => ?_)
                              · exact absurd c_139 (by decide)
                              · replace c_139 := cn_nlt (a := 4) (b := 4) (by omega) (by omega) c_139
                                refine lv_iload hx hb dL_isUser_142 (lv_at hl 3 rfl) ?_
                                refine lv_iconst (v := 2) hx hb dL_isUser_144 (by decide) ?_
                                refine lv_icmp_eq (tgt := 154) hx hb dL_isUser_145 (by decide) (fun c_140 => ?_) (fun c_140 => ?_)
                                · exact absurd c_140 (by decide)
                                · replace c_140 := cn_ne (a := 4) (b := 2) (by omega) (by omega) c_140
                                  refine lv_iload hx hb dL_isUser_148 (lv_at hl 3 rfl) ?_
                                  refine lv_iconst (v := 3) hx hb dL_isUser_150 (by decide) ?_
                                  refine lv_icmp_ne (tgt := 158) hx hb dL_isUser_151 (by decide) (fun c_141 => ?_) (fun c_141 => ?_)
                                  · replace c_141 := cn_ne (a := 4) (b := 3) (by omega) (by omega) c_141
                                    refine lv_iconst (v := 0) hx hb dL_isUser_158 (by decide) ?_
                                    refine lv_iload hx hb dL_isUser_159 (lv_at hl 1 rfl) ?_
                                    refine lv_if_ne (tgt := 168) hx hb dL_isUser_161 (by decide) (fun c_142 => ?_) (fun c_142 => ?_)
                                    · replace c_142 := cn_ne (a := 1) (b := 0) (by omega) (by omega) c_142
                                      refine lv_iconst (v := 0) hx hb dL_isUser_168 (by decide) ?_
                                      refine lv_icmp_ne (tgt := 204) hx hb dL_isUser_169 (by decide) (fun c_143 => ?_) (fun c_143 => ?_)
                                      · exact absurd c_143 (by decide)
                                      · replace c_143 := cn_eq (a := 0) (b := 0) (by omega) (by omega) c_143
                                        refine lv_iload hx hb dL_isUser_172 (lv_at hl 3 rfl) ?_
                                        refine lv_if_ne (tgt := 181) hx hb dL_isUser_174 (by decide) (fun c_144 => ?_) (fun c_144 => ?_)
                                        · replace c_144 := cn_ne (a := 4) (b := 0) (by omega) (by omega) c_144
                                          refine lv_iconst (v := 0) hx hb dL_isUser_181 (by decide) ?_
                                          refine lv_iload hx hb dL_isUser_182 (lv_at hl 1 rfl) ?_
                                          refine lv_if_eq (tgt := 196) hx hb dL_isUser_184 (by decide) (fun c_145 => ?_) (fun c_145 => ?_)
                                          · exact absurd c_145 (by decide)
                                          · replace c_145 := cn_ne (a := 1) (b := 0) (by omega) (by omega) c_145
                                            refine lv_iload hx hb dL_isUser_187 (lv_at hl 0 rfl) ?_
                                            refine lv_if_eq (tgt := 196) hx hb dL_isUser_189 (by decide) (fun c_146 => ?_) (fun c_146 => ?_)
                                            · replace c_146 := cn_eq (a := 0) (b := 0) (by omega) (by omega) c_146
                                              refine lv_iconst (v := 0) hx hb dL_isUser_196 (by decide) ?_
                                              refine lv_icmp_ne (tgt := 204) hx hb dL_isUser_197 (by decide) (fun c_147 => ?_) (fun c_147 => ?_)
                                              · exact absurd c_147 (by decide)
                                              · replace c_147 := cn_eq (a := 0) (b := 0) (by omega) (by omega) c_147
                                                refine lv_iconst (v := 1) hx hb dL_isUser_200 (by decide) ?_
                                                refine lv_goto (tgt := 205) hx hb dL_isUser_201 (by decide) ?_
                                                refine lv_istore (lv' := [(5, .int 1), (10, .int 0), (9, .int 1), (8, .int 1), (7, .int 4), (0, .ref (q 0)), (1, .int (nI u)), (2, .int (nI d)), (3, .int (nI o)), (4, .int y), (6, .int (nI k))]) hx hb dL_isUser_205 hl (by decide) rfl (fun ls hl => ?_)
                                                refine lv_iload hx hb dL_isUser_207 (lv_at hl 4 rfl) ?_
                                                refine lv_iconst (v := 1) hx hb dL_isUser_209 (by decide) ?_
                                                refine lv_icmp_le (tgt := 229) hx hb dL_isUser_210 (by decide) (fun c_148 => ?_) (fun c_148 => ?_)
                                                · exact absurd c_148 (by decide)
                                                · replace c_148 := cn_nle (a := 4) (b := 1) (by omega) (by omega) c_148
                                                  refine lv_iload hx hb dL_isUser_213 (lv_at hl 4 rfl) ?_
                                                  refine lv_iconst (v := 5) hx hb dL_isUser_215 (by decide) ?_
                                                  refine lv_icmp_ge (tgt := 229) hx hb dL_isUser_216 (by decide) (fun c_149 => ?_) (fun c_149 => ?_)
                                                  · exact absurd c_149 (by decide)
                                                  · replace c_149 := cn_nle (a := 5) (b := 4) (by omega) (by omega) c_149
                                                    refine lv_iload hx hb dL_isUser_219 (lv_at hl 9 rfl) ?_
                                                    refine lv_iconst (v := 1) hx hb dL_isUser_221 (by decide) ?_
                                                    refine lv_iload hx hb dL_isUser_222 (lv_at hl 10 rfl) ?_
                                                    refine lv_ishl hx hb dL_isUser_224 ?_
                                                    refine lv_ior hx hb dL_isUser_225 ?_
                                                    refine lv_goto (tgt := 231) hx hb dL_isUser_226 (by decide) ?_
                                                    refine lv_istore (lv' := [(4, .int (y ||| (1 <<< ((nI k) &&& 31)))), (5, .int 1), (10, .int 0), (9, .int 1), (8, .int 1), (7, .int 4), (0, .ref (q 0)), (1, .int (nI u)), (2, .int (nI d)), (3, .int (nI o)), (6, .int (nI k))]) hx hb dL_isUser_231 hl (by decide) rfl (fun ls hl => ?_)
                                                    refine lv_iinc (v := (nI (k + 1))) (lv' := [(6, .int (nI (k + 1))), (4, .int (y ||| (1 <<< ((nI k) &&& 31)))), (5, .int 1), (10, .int 0), (9, .int 1), (8, .int 1), (7, .int 4), (0, .ref (q 0)), (1, .int (nI u)), (2, .int (nI d)), (3, .int (nI o))]) hx hb dL_isUser_233 hl (k := 10) rfl (nI_inc k) (by decide) rfl (fun ls hl => ?_)
                                                    refine lv_goto (tgt := 16) hx hb dL_isUser_236 (by decide) ?_
                                                    exact ih16 (k + 1) (y ||| (1 <<< ((nI k) &&& 31))) (by omega) (by omega) (by rw [hy, msU, if_pos ⟨hU, by rw [hs]; decide⟩]) _ (lv_sub hl [7, 8, 9, 10, 1, 2, 0] rfl)
                                            · exact absurd c_146 (by decide)
                                        · exact absurd c_144 (by decide)
                                    · exact absurd c_142 (by decide)
                                  · exact absurd c_141 (by decide)
                          · exact absurd c_137 (by decide)
                        · exact absurd c_136 (by decide)
                  · exact absurd c_120 (by decide)
                · skip
                  refine W.eq (g2 := F0 m 96 ls [.int 1]) (congrArg (fun z9 => F0 m 96 ls (.int z9 :: [])) ((and_cn (by omega)).trans (by rw [hV]; rfl))) ?_
                  refine lv_iconst (v := 1) hx hb dL_isUser_96 (by decide) ?_
                  refine lv_icmp_ne (tgt := 104) hx hb dL_isUser_97 (by decide) (fun c_150 => ?_) (fun c_150 => ?_)
                  · exact absurd c_150 (by decide)
                  · replace c_150 := cn_eq (a := 1) (b := 1) (by omega) (by omega) c_150
                    refine lv_iconst (v := 1) hx hb dL_isUser_100 (by decide) ?_
                    refine lv_goto (tgt := 105) hx hb dL_isUser_101 (by decide) ?_
                    refine lv_istore (lv' := [(10, .int 1), (9, .int 1), (8, .int 1), (7, .int w), (0, .ref (q 0)), (1, .int (nI u)), (2, .int (nI d)), (3, .int (nI o)), (4, .int y), (5, .int 1), (6, .int (nI k))]) hx hb dL_isUser_105 hl (by decide) rfl (fun ls hl => ?_)
                    have hs : sv4 N Z o k (nI d) = 0 := by unfold sv4; rw [if_neg c_60, if_neg (show ¬ Z 2 o ≤ nI d from c_89), if_pos hV]
                    obtain rfl : w = 0 := hw2.trans (by rw [if_pos hU, hs])
                    refine lv_iload hx hb dL_isUser_107 (lv_at hl 9 rfl) ?_
                    refine lv_if_eq (tgt := 204) hx hb dL_isUser_109 (by decide) (fun c_151 => ?_) (fun c_151 => ?_)
                    · exact absurd c_151 (by decide)
                    · replace c_151 := cn_ne (a := 1) (b := 0) (by omega) (by omega) c_151
                      refine lv_iload hx hb dL_isUser_112 (lv_at hl 3 rfl) ?_
                      refine lv_iconst (v := 5) hx hb dL_isUser_114 (by decide) ?_
                      refine lv_icmp_ne (tgt := 122) hx hb dL_isUser_115 (by decide) (fun c_152 => ?_) (fun c_152 => ?_)
                      · replace c_152 := cn_ne (a := 0) (b := 5) (by omega) (by omega) c_152
                        refine lv_iconst (v := 0) hx hb dL_isUser_122 (by decide) ?_
                        refine lv_iload hx hb dL_isUser_123 (lv_at hl 2 rfl) ?_
                        refine lv_if_ne (tgt := 132) hx hb dL_isUser_125 (by decide) (fun c_153 => ?_) (fun c_153 => ?_)
                        · replace c_153 := cn_ne (a := 1) (b := 0) (by omega) (by omega) c_153
                          refine lv_iconst (v := 0) hx hb dL_isUser_132 (by decide) ?_
                          refine lv_icmp_ne (tgt := 204) hx hb dL_isUser_133 (by decide) (fun c_154 => ?_) (fun c_154 => ?_)
                          · exact absurd c_154 (by decide)
                          · replace c_154 := cn_eq (a := 0) (b := 0) (by omega) (by omega) c_154
                            refine lv_iload hx hb dL_isUser_136 (lv_at hl 3 rfl) ?_
                            refine lv_iconst (v := 4) hx hb dL_isUser_138 (by decide) ?_
                            refine lv_icmp_gt (tgt := 200) hx hb dL_isUser_139 (by decide) (fun c_155 => ?_) (fun c_155 => ?_)
                            · exact absurd c_155 (by decide)
                            · replace c_155 := cn_nlt (a := 4) (b := 0) (by omega) (by omega) c_155
                              refine lv_iload hx hb dL_isUser_142 (lv_at hl 3 rfl) ?_
                              refine lv_iconst (v := 2) hx hb dL_isUser_144 (by decide) ?_
                              refine lv_icmp_eq (tgt := 154) hx hb dL_isUser_145 (by decide) (fun c_156 => ?_) (fun c_156 => ?_)
                              · exact absurd c_156 (by decide)
                              · replace c_156 := cn_ne (a := 0) (b := 2) (by omega) (by omega) c_156
                                refine lv_iload hx hb dL_isUser_148 (lv_at hl 3 rfl) ?_
                                refine lv_iconst (v := 3) hx hb dL_isUser_150 (by decide) ?_
                                refine lv_icmp_ne (tgt := 158) hx hb dL_isUser_151 (by decide) (fun c_157 => ?_) (fun c_157 => ?_)
                                · replace c_157 := cn_ne (a := 0) (b := 3) (by omega) (by omega) c_157
                                  refine lv_iconst (v := 0) hx hb dL_isUser_158 (by decide) ?_
                                  refine lv_iload hx hb dL_isUser_159 (lv_at hl 1 rfl) ?_
                                  refine lv_if_ne (tgt := 168) hx hb dL_isUser_161 (by decide) (fun c_158 => ?_) (fun c_158 => ?_)
                                  · replace c_158 := cn_ne (a := 1) (b := 0) (by omega) (by omega) c_158
                                    refine lv_iconst (v := 0) hx hb dL_isUser_168 (by decide) ?_
                                    refine lv_icmp_ne (tgt := 204) hx hb dL_isUser_169 (by decide) (fun c_159 => ?_) (fun c_159 => ?_)
                                    · exact absurd c_159 (by decide)
                                    · replace c_159 := cn_eq (a := 0) (b := 0) (by omega) (by omega) c_159
                                      refine lv_iload hx hb dL_isUser_172 (lv_at hl 3 rfl) ?_
                                      refine lv_if_ne (tgt := 181) hx hb dL_isUser_174 (by decide) (fun c_160 => ?_) (fun c_160 => ?_)
                                      · exact absurd c_160 (by decide)
                                      · replace c_160 := cn_eq (a := 0) (b := 0) (by omega) (by omega) c_160
                                        refine lv_iconst (v := 1) hx hb dL_isUser_177 (by decide) ?_
                                        refine lv_goto (tgt := 182) hx hb dL_isUser_178 (by decide) ?_
                                        refine lv_iload hx hb dL_isUser_182 (lv_at hl 1 rfl) ?_
                                        refine lv_if_eq (tgt := 196) hx hb dL_isUser_184 (by decide) (fun c_161 => ?_) (fun c_161 => ?_)
                                        · exact absurd c_161 (by decide)
                                        · replace c_161 := cn_ne (a := 1) (b := 0) (by omega) (by omega) c_161
                                          refine lv_iload hx hb dL_isUser_187 (lv_at hl 0 rfl) ?_
                                          refine lv_if_eq (tgt := 196) hx hb dL_isUser_189 (by decide) (fun c_162 => ?_) (fun c_162 => ?_)
                                          · exact absurd c_162 (by decide)
                                          · replace c_162 := cn_ne (a := 1) (b := 0) (by omega) (by omega) c_162
                                            refine lv_iconst (v := 1) hx hb dL_isUser_192 (by decide) ?_
                                            refine lv_goto (tgt := 197) hx hb dL_isUser_193 (by decide) ?_
                                            refine lv_icmp_ne (tgt := 204) hx hb dL_isUser_197 (by decide) (fun c_163 => ?_) (fun c_163 => ?_)
                                            · exact absurd c_163 (by decide)
                                            · replace c_163 := cn_eq (a := 1) (b := 1) (by omega) (by omega) c_163
                                              refine lv_iconst (v := 1) hx hb dL_isUser_200 (by decide) ?_
                                              refine lv_goto (tgt := 205) hx hb dL_isUser_201 (by decide) ?_
                                              refine lv_istore (lv' := [(5, .int 1), (10, .int 1), (9, .int 1), (8, .int 1), (7, .int 0), (0, .ref (q 0)), (1, .int (nI u)), (2, .int (nI d)), (3, .int (nI o)), (4, .int y), (6, .int (nI k))]) hx hb dL_isUser_205 hl (by decide) rfl (fun ls hl => ?_)
                                              refine lv_iload hx hb dL_isUser_207 (lv_at hl 4 rfl) ?_
                                              refine lv_iconst (v := 1) hx hb dL_isUser_209 (by decide) ?_
                                              refine lv_icmp_le (tgt := 229) hx hb dL_isUser_210 (by decide) (fun c_164 => ?_) (fun c_164 => ?_)
                                              · replace c_164 := cn_le (a := 0) (b := 1) (by omega) (by omega) c_164
                                                refine lv_iload hx hb dL_isUser_229 (lv_at hl 9 rfl) ?_
                                                refine lv_istore (lv' := [(4, .int y), (5, .int 1), (10, .int 1), (9, .int 1), (8, .int 1), (7, .int 0), (0, .ref (q 0)), (1, .int (nI u)), (2, .int (nI d)), (3, .int (nI o)), (6, .int (nI k))]) hx hb dL_isUser_231 hl (by decide) rfl (fun ls hl => ?_)
                                                refine lv_iinc (v := (nI (k + 1))) (lv' := [(6, .int (nI (k + 1))), (4, .int y), (5, .int 1), (10, .int 1), (9, .int 1), (8, .int 1), (7, .int 0), (0, .ref (q 0)), (1, .int (nI u)), (2, .int (nI d)), (3, .int (nI o))]) hx hb dL_isUser_233 hl (k := 10) rfl (nI_inc k) (by decide) rfl (fun ls hl => ?_)
                                                refine lv_goto (tgt := 16) hx hb dL_isUser_236 (by decide) ?_
                                                exact ih16 (k + 1) y (by omega) (by omega) (by rw [hy, msU, if_neg (fun q9 => absurd q9.2 (by rw [hs]; decide))]) _ (lv_sub hl [7, 8, 9, 10, 1, 2, 0] rfl)
                                              · exact absurd c_164 (by decide)
                                  · exact absurd c_158 (by decide)
                                · exact absurd c_157 (by decide)
                        · exact absurd c_153 (by decide)
                      · exact absurd c_152 (by decide)
  exact L16 _ 0 0 (Nat.lt_succ_self _) (by omega) (by rfl) _ (lv_sub hl [4, 5, 6, 3, 2, 1, 0] rfl)
