theorem dec1 (x : Int32) : x + Int32.ofInt (-1) = x - 1 := by rw [Int32.sub_eq_add_neg, show Int32.ofInt (-1) = (-1 : Int32) by decide]
theorem pm_ge {k : Nat} (hk : k ≤ 8) (h : ¬ nI k - 1 < 0) : ∃ j, k = j + 1 := by
  rcases Nat.eq_zero_or_pos k with e | e
  · subst e; exact absurd (by decide) h
  · exact ⟨k - 1, by omega⟩
theorem pm_0 {N : Nat → Nat} {Z : Nat → Nat → Int32} {x d y z : Int32} {k n : Nat} (hk : k ≤ N 0) (h : nI k - 1 < 0) (hb : bsP N Z x d k n y z) (h8 : N 0 ≤ 8 := by omega) : bsP N Z x d 0 n y z := by
  have e : k = 0 := by
    rcases Nat.eq_zero_or_pos k with e | e
    · exact e
    · obtain ⟨j, rfl⟩ : ∃ j, k = j + 1 := ⟨k - 1, by omega⟩
      rw [nI_pred] at h
      exact absurd h (nI_pos (by omega))
  subst e; exact hb
theorem al_t {Z : Nat → Nat → Int32} {j : Nat} {d : Int32} (h1 : ¬ d < Z 1 j) (h2 : ¬ Z 2 j ≤ d) : aliv Z j d = true := by
  unfold aliv; rw [Bool.and_eq_true, decide_eq_true_eq, decide_eq_true_eq]; exact ⟨Int32.not_lt.mp h1, Int32.not_le.mp h2⟩
theorem al_f1 {Z : Nat → Nat → Int32} {j : Nat} {d : Int32} (h : d < Z 1 j) : aliv Z j d = false := by
  unfold aliv; rw [decide_eq_false (Int32.not_le.mpr h), Bool.false_and]
theorem al_f2 {Z : Nat → Nat → Int32} {j : Nat} {d : Int32} (h : Z 2 j ≤ d) : aliv Z j d = false := by
  unfold aliv; rw [decide_eq_false (Int32.not_lt.mpr h), Bool.and_false]
theorem bc_100 {N : Nat → Nat} {Z : Nat → Nat → Int32} (hw : wf N Z) {u : Nat} (hu : u < N 2) (v : Nat) (d : Int32) : bc (uns N Z (Z 6 u) v d) ≤ 100 := by
  obtain ⟨h0, h1⟩ := hw.2.2.2.2.2.2 u hu
  obtain ⟨k, hk, e⟩ := uns_rng (Z := Z) hw.1.2.1 h0 h1 v d
  rw [e, ← bcM_bc k hk, bcM_ct _ 10 (by decide)]
  have := ctN_le (bt (nI k)) 10
  exact (nI_leI (a := ctN (bt (nI k)) 10) (b := 100) (by omega) (by decide)).mpr (by omega)
theorem idL_isVersion : yL_isVersion.cls = RL ∧ yL_isVersion.cls ≠ "java/lang/invoke/MethodHandle" ∧ yL_isVersion.cls ≠ "java/lang/invoke/VarHandle" ∧ (parseMethodDescriptor yL_isVersion.desc).map (fun d => d.parameters.length) = some 4 := by decide +kernel
set_option maxHeartbeats 4000000 in
set_option maxRecDepth 100000 in
theorem nL_isVersion (l : Launch) (hl0 : l.stackTraces = false) {G : va_G} {T : Nat → ClassId} {sa : Nat → Nat} {A9 : Nat → Prop} {H0 : Heap} {q : Nat → Nat} {a : Nat → Nat} {N : Nat → Nat} {Z : Nat → Nat → Int32} {b : Nat → Nat → Nat} {M : Nat → Nat → Nat} {Y : Nat → Nat → Nat → Int32} {sc : Nat} {tx : Nat → Int32} {L : Nat} {cu : Nat} {er : Int32} {le : Int32} {nb : Nat → Int32} {nc : Nat} {u : Nat} {f : Nat} {w : Nat} (h9 : ∀ z9 : Nat, va_A (wMain T q a N Z b M Y sc tx L cu er le nb nc) H0.size z9 → A9 z9) (hP : va_P G vwCl (wMain T q a N Z b M Y sc tx L cu er le nb nc) H0) (hD : va_D (fun _ => True) (wMain T q a N Z b M Y sc tx L cu er le nb nc)) (hwf : wf N Z) (hsc : sc ≤ 4) (hu : u < N 2) (hf : f ≤ w) (hw : w ≤ 999) : wn l yL_isVersion wsL_isVersion 10 180 24 [.ref (q 0), .int (nI u), .int (nI f), .int (nI w)] G T sa A9 H0 (wMain T q a N Z b M Y sc tx L cu er le nb nc) (fun v9 H9 => v9 = some (.int 1) ∧ wst G T q a N Z b tx L cu er le nb nc H9) := by
  refine wn_of (cc := cL_isVersion) (maxL := 12) (ret := .boolean) (own := RL) (by decide +kernel) rfl rfl (Nat.le_of_ble_eq_true rfl) h9 hD ?_
  have hb2 := hwf.1
  intro p e s m below meth c Q ls A S hkx hth0 hl hD hS hA hret
  obtain ⟨hx, hb, hml, hown, hts⟩ := id S
  have hl : lv_has ls 12 [(0, .ref (q 0)), (1, .int (nI u)), (2, .int (nI f)), (3, .int (nI w))] := hl
  have hth := hth0
  have hD0 := hD
  have hv0 := u_v hwf (show 0 < N 2 by omega)
  refine lv_aload_n hx hb dL_isVersion_0 rfl (lv_at hl 0 rfl) ?_
  refine lv_iload_n hx hb dL_isVersion_1 rfl (lv_at hl 1 rfl) ?_
  refine lv_iload_n hx hb dL_isVersion_2 rfl (lv_at hl 2 rfl) ?_
  refine lv_iload_n hx hb dL_isVersion_3 rfl (lv_at hl 3 rfl) ?_
  refine rn_V S hkx hth (nX5_cheapest l hl0 (sa := sa) (h9 := (fun q h => hA q (Nat.le_trans hS.1 h))) (hP := hP) (hwf := hwf) (hu := (by omega)) (hf := (by omega)) (hw := (by omega)) (u := u) (f := f) (w := w)) gL_isVersion_X5_cheapest rfl idX5_cheapest ⟨Nat.le_of_ble_eq_true rfl, Nat.le_of_ble_eq_true rfl⟩ hP 0 rfl rfl rfl rfl hl.1 rfl (Nat.le_of_ble_eq_true rfl) dL_isVersion_4 ⟨Nat.le_of_ble_eq_true rfl, Nat.le_of_ble_eq_true rfl⟩ (fun v9 hv9 => ?_)
  subst hv9
  refine W.eq (g2 := F0 m 7 ls [.int ((vcl N Z (Z 6 u) f w (N 0)).1)]) rfl ?_
  rcases vcl_sp N Z (Z 6 u) f w (N 0) with hz | ⟨v, hv, hz, hz2⟩
  · skip
    refine W.eq (g2 := F0 m 7 ls [.int (-1)]) (congrArg (fun z9 => F0 m 7 ls (.int z9 :: [])) (hz)) ?_
    refine lv_istore (lv' := [(4, .int (-1)), (0, .ref (q 0)), (1, .int (nI u)), (2, .int (nI f)), (3, .int (nI w))]) hx hb dL_isVersion_7 hl (by decide) rfl (fun ls hl => ?_)
    refine lv_aload_n hx hb dL_isVersion_9 rfl (lv_at hl 1 rfl) ?_
    refine lv_iload_n hx hb dL_isVersion_10 rfl (lv_at hl 2 rfl) ?_
    refine lv_iload_n hx hb dL_isVersion_11 rfl (lv_at hl 3 rfl) ?_
    refine rn_V S hkx hth (nX5_bestVersion l hl0 (sa := sa) (h9 := (fun q h => hA q (Nat.le_trans hS.1 h))) (hP := hP) (hwf := hwf) (hu := (by omega)) (hd := (by omega)) (u := u) (d := f)) gL_isVersion_X5_bestVersion rfl idX5_bestVersion ⟨Nat.le_of_ble_eq_true rfl, Nat.le_of_ble_eq_true rfl⟩ hP 0 rfl rfl rfl rfl hl.1 rfl (Nat.le_of_ble_eq_true rfl) dL_isVersion_12 ⟨Nat.le_of_ble_eq_true rfl, Nat.le_of_ble_eq_true rfl⟩ (fun v9 hv9 => ?_)
    subst hv9
    refine W.eq (g2 := F0 m 15 ls [.int ((vsm N Z (Z 6 u) (nI f) (N 0)).1)]) rfl ?_
    refine lv_istore (lv' := [(5, .int ((vsm N Z (Z 6 u) (nI f) (N 0)).1)), (4, .int (-1)), (0, .ref (q 0)), (1, .int (nI u)), (2, .int (nI f)), (3, .int (nI w))]) hx hb dL_isVersion_15 hl (by decide) rfl (fun ls hl => ?_)
    refine lv_iconst (v := 1) hx hb dL_isVersion_17 (by decide) ?_
    refine lv_istore (lv' := [(6, .int 1), (5, .int ((vsm N Z (Z 6 u) (nI f) (N 0)).1)), (4, .int (-1)), (0, .ref (q 0)), (1, .int (nI u)), (2, .int (nI f)), (3, .int (nI w))]) hx hb dL_isVersion_18 hl (by decide) rfl (fun ls hl => ?_)
    refine lv_iload hx hb dL_isVersion_20 (lv_at hl 2 rfl) ?_
    refine lv_if_lt (tgt := 68) hx hb dL_isVersion_22 (by decide) (fun c_1 => ?_) (fun c_1 => ?_)
    · have c_1n := Int32.not_le.mpr c_1
      refine lv_bipush (v := 100) hx hb dL_isVersion_68 (by decide) ?_
      refine lv_istore (lv' := [(7, .int 100), (6, .int 1), (5, .int ((vsm N Z (Z 6 u) (nI f) (N 0)).1)), (4, .int (-1)), (0, .ref (q 0)), (1, .int (nI u)), (2, .int (nI f)), (3, .int (nI w))]) hx hb dL_isVersion_70 hl (by decide) rfl (fun ls hl => ?_)
      refine lv_iconst (v := (-1)) hx hb dL_isVersion_72 (by decide) ?_
      refine lv_istore (lv' := [(8, .int (-1)), (7, .int 100), (6, .int 1), (5, .int ((vsm N Z (Z 6 u) (nI f) (N 0)).1)), (4, .int (-1)), (0, .ref (q 0)), (1, .int (nI u)), (2, .int (nI f)), (3, .int (nI w))]) hx hb dL_isVersion_73 hl (by decide) rfl (fun ls hl => ?_)
      refine lv_aload_n hx hb dL_isVersion_75 rfl (lv_at hl 5 rfl) ?_
      refine lv_iconst (v := 0) hx hb dL_isVersion_76 (by decide) ?_
      refine rn_V S hkx hth (nX5_value l hl0 (sa := sa) (h9 := (fun q h => hA q (Nat.le_trans hS.1 h))) (hP := hP) (hwf := hwf) (hw := (by omega)) (w := 0)) gL_isVersion_X5_value rfl idX5_value ⟨Nat.le_of_ble_eq_true rfl, Nat.le_of_ble_eq_true rfl⟩ hP 0 rfl rfl rfl rfl hl.1 rfl (Nat.le_of_ble_eq_true rfl) dL_isVersion_77 ⟨Nat.le_of_ble_eq_true rfl, Nat.le_of_ble_eq_true rfl⟩ (fun v9 hv9 => ?_)
      subst hv9
      refine W.eq (g2 := F0 m 80 ls [.int (nI (N 0))]) rfl ?_
      refine lv_iconst (v := 1) hx hb dL_isVersion_80 (by decide) ?_
      refine lv_isub hx hb dL_isVersion_81 ?_
      refine lv_istore (lv' := [(9, .int ((nI (N 0)) - 1)), (8, .int (-1)), (7, .int 100), (6, .int 1), (5, .int ((vsm N Z (Z 6 u) (nI f) (N 0)).1)), (4, .int (-1)), (0, .ref (q 0)), (1, .int (nI u)), (2, .int (nI f)), (3, .int (nI w))]) hx hb dL_isVersion_82 hl (by decide) rfl (fun ls hl => ?_)
      have L84 : ∀ (fuel : Nat) (k : Nat) (y z : Int32) (b9 : Nat → Nat → Nat) (M9 : Nat → Nat → Nat) (Y9 : Nat → Nat → Nat → Int32) (sc9 : Nat), k < fuel → k ≤ N 0 → sc9 ≤ 4 → ((wMain T q a N Z b9 M9 Y9 sc9 tx L cu er le nb nc).map Prod.fst).Perm ((wMain T q a N Z b M Y sc tx L cu er le nb nc).map Prod.fst) → bsP N Z (Z 6 u) (nI f) k (N 0) y z → (y = -1 → z = 100) → ∀ (cs ns : Nat), cs + 2 * k ≤ 20 → ns + 12 * k ≤ 120 → ∀ (H : Heap) (locs : List Loc), va_P G vwCl (wMain T q a N Z b9 M9 Y9 sc9 tx L cu er le nb nc) H → va_D A (wMain T q a N Z b9 M9 Y9 sc9 tx L cu er le nb nc) → va_S A H0 H locs → ∀ ls : Array Slot, lv_has ls 12 [(0, .ref (q 0)), (1, .int (nI u)), (2, .int (nI f)), (3, .int (nI w)), (4, .int (-1)), (5, .int ((vsm N Z (Z 6 u) (nI f) (N 0)).1)), (6, .int 1), (7, .int z), (8, .int y), (9, .int ((nI k) - 1))] → W p l e (rmx 10 180 24) s m ([.ref (q 0), .int (nI u), .int (nI f), .int (nI w)] : List Value).toArray below meth c H locs cs ns Q (F0 m 84 ls []) := by
        intro fuel
        induction fuel with
        | zero => intro k y z b9 M9 Y9 sc9 hm; exact absurd hm (Nat.not_lt_zero _)
        | succ fuel ih84 =>
          intro k y z b9 M9 Y9 sc9 hm84 hk hsc9 hpm9 hbs hm1 cs ns hcs hns H locs hP hD hS ls hl
          have hth := hth0.kept hS.2.1
          refine lv_iload hx hb dL_isVersion_84 (lv_at hl 9 rfl) ?_
          refine lv_if_lt (tgt := 176) hx hb dL_isVersion_86 (by decide) (fun c_2 => ?_) (fun c_2 => ?_)
          · have c_2n := Int32.not_le.mpr c_2
            refine lv_iload hx hb dL_isVersion_176 (lv_at hl 6 rfl) ?_
            refine lv_if_eq (tgt := 192) hx hb dL_isVersion_178 (by decide) (fun c_3 => ?_) (fun c_3 => ?_)
            · exact absurd c_3 (by decide)
            · replace c_3 := cn_ne (a := 1) (b := 0) (by omega) (by omega) c_3
              refine lv_iload hx hb dL_isVersion_181 (lv_at hl 5 rfl) ?_
              refine lv_iload hx hb dL_isVersion_183 (lv_at hl 8 rfl) ?_
              refine lv_icmp_ne (tgt := 192) hx hb dL_isVersion_185 (by decide) (fun c_4 => ?_) (fun c_4 => ?_)
              · exact absurd (bsP_one (vsm_sp N Z (Z 6 u) (nI f) (N 0) (by omega)) (pm_0 hk c_2 hbs)) c_4
              · skip
                refine lv_iconst (v := 1) hx hb dL_isVersion_188 (by decide) ?_
                refine lv_goto (tgt := 193) hx hb dL_isVersion_189 (by decide) ?_
                exact hret _ H _ _ _ _ _ (show some (Value.int 1) = some (Value.int 1) ∧ wst G T q a N Z b tx L cu er le nb nc H from ⟨rfl, wst_of hsc9 hpm9 hP⟩) rfl hS (show cs ≤ 24 by omega) (show ns ≤ 6 * 24 by omega) dL_isVersion_193
          · have c_2n := Int32.not_lt.mp c_2
            obtain ⟨j, rfl⟩ : ∃ j, k = j + 1 := pm_ge (by omega) c_2
            rw [nI_pred] at hl
            refine lv_iload_n hx hb dL_isVersion_89 rfl (lv_at hl 2 rfl) ?_
            refine lv_aload_n hx hb dL_isVersion_90 rfl (lv_at hl 0 rfl) ?_
            refine lv_iload hx hb dL_isVersion_91 (lv_at hl 9 rfl) ?_
            refine lv_iconst (v := 0) hx hb dL_isVersion_93 (by decide) ?_
            refine rn_V S hkx hth (nX5_version l hl0 (sa := sa) (h9 := (fun q h => hA q (Nat.le_trans hS.1 h))) (hP := hP) (hwf := hwf) (hv := (by omega)) (hw := (by omega)) (v := j) (w := 0)) gL_isVersion_X5_version rfl idX5_version ⟨Nat.le_of_ble_eq_true rfl, Nat.le_of_ble_eq_true rfl⟩ hP 0 rfl rfl rfl rfl hl.1 rfl (Nat.le_of_ble_eq_true rfl) dL_isVersion_94 ⟨(show cs + 2 ≤ 24 by omega), (show ns + 6 * 2 ≤ 6 * 24 by omega)⟩ (fun v9 hv9 => ?_)
            subst hv9
            refine W.eq (g2 := F0 m 97 ls [.int (Z 1 j), .int (nI f)]) rfl ?_
            refine lv_icmp_lt (tgt := 170) hx hb dL_isVersion_97 (by decide) (fun c_5 => ?_) (fun c_5 => ?_)
            · have c_5n := Int32.not_le.mpr c_5
              refine lv_iinc (v := ((nI j) - 1)) (lv' := [(9, .int ((nI j) - 1)), (0, .ref (q 0)), (1, .int (nI u)), (2, .int (nI f)), (3, .int (nI w)), (4, .int (-1)), (5, .int ((vsm N Z (Z 6 u) (nI f) (N 0)).1)), (6, .int 1), (7, .int z), (8, .int y)]) hx hb dL_isVersion_170 hl (k := 9) rfl (dec1 _) (by decide) rfl (fun ls hl => ?_)
              refine lv_goto (tgt := 84) hx hb dL_isVersion_173 (by decide) ?_
              exact ih84 j y z b9 M9 Y9 sc9 (by omega) (by omega) (by omega) (by exact hpm9) (by exact bsP_no hbs (al_f1 c_5)) (by exact hm1) cs ns (by omega) (by omega) _ _ hP hD hS _ (lv_sub hl [1, 2, 3, 4, 5, 6, 7, 8, 9, 0] rfl)
            · have c_5n := Int32.not_lt.mp c_5
              refine lv_iload_n hx hb dL_isVersion_100 rfl (lv_at hl 2 rfl) ?_
              refine lv_aload_n hx hb dL_isVersion_101 rfl (lv_at hl 0 rfl) ?_
              refine lv_iload hx hb dL_isVersion_102 (lv_at hl 9 rfl) ?_
              refine lv_iconst (v := 1) hx hb dL_isVersion_104 (by decide) ?_
              refine rn_V S hkx hth (nX5_version l hl0 (sa := sa) (h9 := (fun q h => hA q (Nat.le_trans hS.1 h))) (hP := hP) (hwf := hwf) (hv := (by omega)) (hw := (by omega)) (v := j) (w := 1)) gL_isVersion_X5_version rfl idX5_version ⟨Nat.le_of_ble_eq_true rfl, Nat.le_of_ble_eq_true rfl⟩ hP 0 rfl rfl rfl rfl hl.1 rfl (Nat.le_of_ble_eq_true rfl) dL_isVersion_105 ⟨(show cs + 2 ≤ 24 by omega), (show ns + 6 * 2 ≤ 6 * 24 by omega)⟩ (fun v9 hv9 => ?_)
              subst hv9
              refine W.eq (g2 := F0 m 108 ls [.int (Z 2 j), .int (nI f)]) rfl ?_
              refine lv_icmp_ge (tgt := 170) hx hb dL_isVersion_108 (by decide) (fun c_6 => ?_) (fun c_6 => ?_)
              · have c_6n := Int32.not_lt.mpr c_6
                refine lv_iinc (v := ((nI j) - 1)) (lv' := [(9, .int ((nI j) - 1)), (0, .ref (q 0)), (1, .int (nI u)), (2, .int (nI f)), (3, .int (nI w)), (4, .int (-1)), (5, .int ((vsm N Z (Z 6 u) (nI f) (N 0)).1)), (6, .int 1), (7, .int z), (8, .int y)]) hx hb dL_isVersion_170 hl (k := 9) rfl (dec1 _) (by decide) rfl (fun ls hl => ?_)
                refine lv_goto (tgt := 84) hx hb dL_isVersion_173 (by decide) ?_
                exact ih84 j y z b9 M9 Y9 sc9 (by omega) (by omega) (by omega) (by exact hpm9) (by exact bsP_no hbs (al_f2 c_6)) (by exact hm1) cs ns (by omega) (by omega) _ _ hP hD hS _ (lv_sub hl [1, 2, 3, 4, 5, 6, 7, 8, 9, 0] rfl)
              · have c_6n := Int32.not_le.mp c_6
                have ha : aliv Z j (nI f) = true := al_t c_5 c_6
                refine lv_aload_n hx hb dL_isVersion_111 rfl (lv_at hl 0 rfl) ?_
                refine lv_iload_n hx hb dL_isVersion_112 rfl (lv_at hl 1 rfl) ?_
                refine lv_iload hx hb dL_isVersion_113 (lv_at hl 9 rfl) ?_
                refine lv_iload_n hx hb dL_isVersion_115 rfl (lv_at hl 2 rfl) ?_
                refine wn_V S hkx hth (nX5_pledge l hl0 (sa := sa) (A9 := A) (h9 := (fun q h => hA q (Nat.le_trans hS.1 h))) (hP := hP) (hD := hD.weaken (fun _ _ _ _ => trivial)) (hwf := hwf) (hsc := (by omega)) (hu := (by omega)) (hv := (by omega)) (hd := (by omega)) (u := u) (v := j) (d := f)) gL_isVersion_X5_pledge rfl idX5_pledge ⟨Nat.le_of_ble_eq_true rfl, Nat.le_of_ble_eq_true rfl⟩ hP 0 rfl rfl rfl rfl hl.1 rfl (Nat.le_of_ble_eq_true rfl) dL_isVersion_116 ⟨(show cs + 1 ≤ 24 by omega), (show ns + 6 * 1 ≤ 6 * 24 by omega)⟩ hS (fr_in hD (fun q h => hA q (Nat.le_trans hS.1 h))) (fun v9 H locs hp9 hz1 hk1 hS => ?_)
                obtain ⟨rfl, hP⟩ := hp9
                have hP : va_P G vwCl (wMain T q a N (uPl Z u (nI j) (nI f)) (svB sc9 b9) (psh sc9 M9 N) (psh sc9 Y9 Z) (svC sc9) tx L cu er le nb nc) H := hP
                have hD : va_D A (wMain T q a N (uPl Z u (nI j) (nI f)) (svB sc9 b9) (psh sc9 M9 N) (psh sc9 Y9 Z) (svC sc9) tx L cu er le nb nc) := D_perm hD sv_addr
                have hth := hth0.kept hS.2.1
                refine W.eq (g2 := F0 m 119 ls [.int (Z 8 u)]) rfl ?_
                have hwg1 : wf N (uPl Z u (nI j) (nI f)) := wf_pl hwf (Or.inr ⟨_, (show j < N 0 by omega), rfl, by rw [nI_toInt (by omega)]; omega⟩)
                have hsv1 := svC_bd (sc := sc9) (by omega)
                refine lv_istore (lv' := [(10, .int (Z 8 u)), (0, .ref (q 0)), (1, .int (nI u)), (2, .int (nI f)), (3, .int (nI w)), (4, .int (-1)), (5, .int ((vsm N Z (Z 6 u) (nI f) (N 0)).1)), (6, .int 1), (7, .int z), (8, .int y), (9, .int (nI j))]) hx hb dL_isVersion_119 hl (by decide) rfl (fun ls hl => ?_)
                refine lv_aload_n hx hb dL_isVersion_121 rfl (lv_at hl 1 rfl) ?_
                refine lv_iload_n hx hb dL_isVersion_122 rfl (lv_at hl 2 rfl) ?_
                refine lv_iload_n hx hb dL_isVersion_123 rfl (lv_at hl 3 rfl) ?_
                refine rn_V S hkx hth (nX5_missing l hl0 (sa := sa) (h9 := (fun q h => hA q (Nat.le_trans hS.1 h))) (hP := hP) (hwf := hwg1) (hu := (by omega)) (hd := (by omega)) (u := u) (d := f)) gL_isVersion_X5_missing rfl idX5_missing ⟨Nat.le_of_ble_eq_true rfl, Nat.le_of_ble_eq_true rfl⟩ hP 0 rfl rfl rfl rfl hl.1 rfl (Nat.le_of_ble_eq_true rfl) dL_isVersion_124 ⟨(show cs + 1 + 2 ≤ 24 by omega), (show ns + 6 * 1 + 6 * 2 ≤ 6 * 24 by omega)⟩ (fun v9 hv9 => ?_)
                subst hv9
                refine W.eq (g2 := F0 m 127 ls [.int (unU N (uPl Z u (nI j) (nI f)) u (nI f))]) rfl ?_
                refine W.eq (g2 := F0 m 127 ls [.int (uns N Z (Z 6 u) j (nI f))]) (congrArg (fun z9 => F0 m 127 ls (.int z9 :: [])) ((unU_pl hwf hu (show j < N 0 by omega) (show f ≤ 999 by omega) (show f ≤ 999 by omega)).trans (by rw [if_pos (Nat.le_refl f)]))) ?_
                refine ro_S S hkx (mL_bits l (x := (uns N Z (Z 6 u) j (nI f)))) gL_isVersion_L_bits rfl idL_bits.2 ⟨Nat.le_of_ble_eq_true rfl, Nat.le_of_ble_eq_true rfl⟩ rfl hl.1 rfl (Nat.le_of_ble_eq_true rfl) dL_isVersion_127 ⟨(show cs + 1 ≤ 24 by omega), (show ns + 6 * 1 ≤ 6 * 24 by omega)⟩ (fun r9 hr9 => ?_)
                subst hr9
                refine W.eq (g2 := F0 m 130 ls [.int (bcM (uns N Z (Z 6 u) j (nI f)) 10)]) rfl ?_
                refine W.eq (g2 := F0 m 130 ls [.int (bc (uns N Z (Z 6 u) j (nI f)))]) (congrArg (fun z9 => F0 m 130 ls (.int z9 :: [])) (bcM_uns hwf hu j (nI f))) ?_
                refine lv_istore (lv' := [(11, .int (bc (uns N Z (Z 6 u) j (nI f)))), (10, .int (Z 8 u)), (0, .ref (q 0)), (1, .int (nI u)), (2, .int (nI f)), (3, .int (nI w)), (4, .int (-1)), (5, .int ((vsm N Z (Z 6 u) (nI f) (N 0)).1)), (6, .int 1), (7, .int z), (8, .int y), (9, .int (nI j))]) hx hb dL_isVersion_130 hl (by decide) rfl (fun ls hl => ?_)
                refine lv_aload_n hx hb dL_isVersion_132 rfl (lv_at hl 2 rfl) ?_
                refine wn_V S hkx hth (nX5_undo l hl0 (sa := sa) (A9 := A) (h9 := (fun q h => hA q (Nat.le_trans hS.1 h))) (hP := hP) (hD := hD.weaken (fun _ _ _ _ => trivial)) (hwf := hwg1) (hsc := (by omega)) (h0 := (by omega)) ) gL_isVersion_X5_undo rfl idX5_undo ⟨Nat.le_of_ble_eq_true rfl, Nat.le_of_ble_eq_true rfl⟩ hP 0 rfl rfl rfl rfl hl.1 rfl (Nat.le_of_ble_eq_true rfl) dL_isVersion_133 ⟨(show cs + 1 + 1 ≤ 24 by omega), (show ns + 6 * 1 + 6 * 1 ≤ 6 * 24 by omega)⟩ hS (fr_in hD (fun q h => hA q (Nat.le_trans hS.1 h))) (fun v9 H locs hp9 hz1 hk1 hS => ?_)
                obtain ⟨rfl, hP⟩ := hp9
                have hP : va_P G vwCl (wMain T q a ((psh sc9 M9 N) ((svC sc9) - 1)) ((psh sc9 Y9 Z) ((svC sc9) - 1)) (svB sc9 b9) (psh sc9 M9 N) (psh sc9 Y9 Z) ((svC sc9) - 1) tx L cu er le nb nc) H := hP
                have hD : va_D A (wMain T q a ((psh sc9 M9 N) ((svC sc9) - 1)) ((psh sc9 Y9 Z) ((svC sc9) - 1)) (svB sc9 b9) (psh sc9 M9 N) (psh sc9 Y9 Z) ((svC sc9) - 1) tx L cu er le nb nc) := D_perm hD (List.Perm.refl _)
                have hth := hth0.kept hS.2.1
                refine W.eq (g2 := F0 m 136 ls [.int (nI ((svC sc9) - 1))]) rfl ?_
                obtain ⟨b2, M2, Y2, sc2, hsc2, hpm2, hP⟩ := un_st (show sc9 ≤ 4 by omega) hpm9 hP
                have hD : va_D A (wMain T q a N Z b2 M2 Y2 sc2 tx L cu er le nb nc) := D_perm hD0 hpm2
                refine lv_istore (lv' := [(10, .int (nI ((svC sc9) - 1))), (11, .int (bc (uns N Z (Z 6 u) j (nI f)))), (0, .ref (q 0)), (1, .int (nI u)), (2, .int (nI f)), (3, .int (nI w)), (4, .int (-1)), (5, .int ((vsm N Z (Z 6 u) (nI f) (N 0)).1)), (6, .int 1), (7, .int z), (8, .int y), (9, .int (nI j))]) hx hb dL_isVersion_136 hl (by decide) rfl (fun ls hl => ?_)
                refine lv_iload hx hb dL_isVersion_138 (lv_at hl 1 rfl) ?_
                refine lv_iload hx hb dL_isVersion_140 (lv_at hl 9 rfl) ?_
                refine lv_icmp_gt (tgt := 150) hx hb dL_isVersion_142 (by decide) (fun c_7 => ?_) (fun c_7 => ?_)
                · have c_7n := Int32.not_le.mpr c_7
                  refine lv_iload hx hb dL_isVersion_150 (lv_at hl 10 rfl) ?_
                  refine lv_istore (lv' := [(8, .int y), (10, .int (nI ((svC sc9) - 1))), (11, .int (bc (uns N Z (Z 6 u) j (nI f)))), (0, .ref (q 0)), (1, .int (nI u)), (2, .int (nI f)), (3, .int (nI w)), (4, .int (-1)), (5, .int ((vsm N Z (Z 6 u) (nI f) (N 0)).1)), (6, .int 1), (7, .int z), (9, .int (nI j))]) hx hb dL_isVersion_152 hl (by decide) rfl (fun ls hl => ?_)
                  refine lv_iload hx hb dL_isVersion_154 (lv_at hl 2 rfl) ?_
                  refine lv_iload hx hb dL_isVersion_156 (lv_at hl 10 rfl) ?_
                  refine lv_icmp_gt (tgt := 166) hx hb dL_isVersion_158 (by decide) (fun c_8 => ?_) (fun c_8 => ?_)
                  · have c_8n := Int32.not_le.mpr c_8
                    refine lv_iload hx hb dL_isVersion_166 (lv_at hl 10 rfl) ?_
                    refine lv_istore (lv' := [(7, .int z), (8, .int y), (10, .int (nI ((svC sc9) - 1))), (11, .int (bc (uns N Z (Z 6 u) j (nI f)))), (0, .ref (q 0)), (1, .int (nI u)), (2, .int (nI f)), (3, .int (nI w)), (4, .int (-1)), (5, .int ((vsm N Z (Z 6 u) (nI f) (N 0)).1)), (6, .int 1), (9, .int (nI j))]) hx hb dL_isVersion_168 hl (by decide) rfl (fun ls hl => ?_)
                    refine lv_iinc (v := ((nI j) - 1)) (lv' := [(9, .int ((nI j) - 1)), (7, .int z), (8, .int y), (10, .int (nI ((svC sc9) - 1))), (11, .int (bc (uns N Z (Z 6 u) j (nI f)))), (0, .ref (q 0)), (1, .int (nI u)), (2, .int (nI f)), (3, .int (nI w)), (4, .int (-1)), (5, .int ((vsm N Z (Z 6 u) (nI f) (N 0)).1)), (6, .int 1)]) hx hb dL_isVersion_170 hl (k := 11) rfl (dec1 _) (by decide) rfl (fun ls hl => ?_)
                    refine lv_goto (tgt := 84) hx hb dL_isVersion_173 (by decide) ?_
                    exact ih84 j y z b2 M2 Y2 sc2 (by omega) (by omega) (by omega) (by exact hpm2) (by exact bsP_ke hbs (fun q9 => absurd (hm1 q9 ▸ bc_100 hwf hu j (nI f)) c_7n) c_7n) (by exact hm1) (cs + 1 + 1) (ns + 6 * 1 + 6 * 1) (by omega) (by omega) _ _ hP hD hS _ (lv_sub hl [5, 6, 7, 8, 9, 10, 11, 1, 2, 0] rfl)
                  · exact absurd c_7 c_8
                · have c_7n := Int32.not_lt.mp c_7
                  refine lv_iload hx hb dL_isVersion_145 (lv_at hl 11 rfl) ?_
                  refine lv_goto (tgt := 152) hx hb dL_isVersion_147 (by decide) ?_
                  refine lv_istore (lv' := [(8, .int (nI j)), (10, .int (nI ((svC sc9) - 1))), (11, .int (bc (uns N Z (Z 6 u) j (nI f)))), (0, .ref (q 0)), (1, .int (nI u)), (2, .int (nI f)), (3, .int (nI w)), (4, .int (-1)), (5, .int ((vsm N Z (Z 6 u) (nI f) (N 0)).1)), (6, .int 1), (7, .int z), (9, .int (nI j))]) hx hb dL_isVersion_152 hl (by decide) rfl (fun ls hl => ?_)
                  refine lv_iload hx hb dL_isVersion_154 (lv_at hl 2 rfl) ?_
                  refine lv_iload hx hb dL_isVersion_156 (lv_at hl 10 rfl) ?_
                  refine lv_icmp_gt (tgt := 166) hx hb dL_isVersion_158 (by decide) (fun c_9 => ?_) (fun c_9 => ?_)
                  · exact absurd c_9 c_7
                  · have c_9n := Int32.not_lt.mp c_9
                    refine lv_iload hx hb dL_isVersion_161 (lv_at hl 2 rfl) ?_
                    refine lv_goto (tgt := 168) hx hb dL_isVersion_163 (by decide) ?_
                    refine lv_istore (lv' := [(7, .int (bc (uns N Z (Z 6 u) j (nI f)))), (8, .int (nI j)), (10, .int (nI ((svC sc9) - 1))), (11, .int (bc (uns N Z (Z 6 u) j (nI f)))), (0, .ref (q 0)), (1, .int (nI u)), (2, .int (nI f)), (3, .int (nI w)), (4, .int (-1)), (5, .int ((vsm N Z (Z 6 u) (nI f) (N 0)).1)), (6, .int 1), (9, .int (nI j))]) hx hb dL_isVersion_168 hl (by decide) rfl (fun ls hl => ?_)
                    refine lv_iinc (v := ((nI j) - 1)) (lv' := [(9, .int ((nI j) - 1)), (7, .int (bc (uns N Z (Z 6 u) j (nI f)))), (8, .int (nI j)), (10, .int (nI ((svC sc9) - 1))), (11, .int (bc (uns N Z (Z 6 u) j (nI f)))), (0, .ref (q 0)), (1, .int (nI u)), (2, .int (nI f)), (3, .int (nI w)), (4, .int (-1)), (5, .int ((vsm N Z (Z 6 u) (nI f) (N 0)).1)), (6, .int 1)]) hx hb dL_isVersion_170 hl (k := 11) rfl (dec1 _) (by decide) rfl (fun ls hl => ?_)
                    refine lv_goto (tgt := 84) hx hb dL_isVersion_173 (by decide) ?_
                    exact ih84 j (nI j) (bc (uns N Z (Z 6 u) j (nI f))) b2 M2 Y2 sc2 (by omega) (by omega) (by omega) (by exact hpm2) (by exact bsP_ta (by omega) hbs ha c_7n) (by exact fun q9 => absurd q9 (nIm1 (by omega))) (cs + 1 + 1) (ns + 6 * 1 + 6 * 1) (by omega) (by omega) _ _ hP hD hS _ (lv_sub hl [5, 6, 7, 8, 9, 10, 11, 1, 2, 0] rfl)
      exact L84 _ (N 0) (-1) 100 b M Y sc (Nat.lt_succ_self _) (by omega) (by omega) (by exact List.Perm.refl _) (by exact Or.inl ⟨rfl, fun v a b => by omega⟩) (by exact fun _ => rfl) 0 0 (by omega) (by omega) _ _ hP hD hS _ (lv_sub hl [6, 7, 8, 9, 5, 4, 3, 2, 1, 0] rfl)
    · exact absurd c_1 (by decide)
  · skip
    refine W.eq (g2 := F0 m 7 ls [.int (nI v)]) (congrArg (fun z9 => F0 m 7 ls (.int z9 :: [])) (hz)) ?_
    refine lv_istore (lv' := [(4, .int (nI v)), (0, .ref (q 0)), (1, .int (nI u)), (2, .int (nI f)), (3, .int (nI w))]) hx hb dL_isVersion_7 hl (by decide) rfl (fun ls hl => ?_)
    refine lv_aload_n hx hb dL_isVersion_9 rfl (lv_at hl 1 rfl) ?_
    refine lv_iload_n hx hb dL_isVersion_10 rfl (lv_at hl 2 rfl) ?_
    refine lv_iload_n hx hb dL_isVersion_11 rfl (lv_at hl 3 rfl) ?_
    refine rn_V S hkx hth (nX5_bestVersion l hl0 (sa := sa) (h9 := (fun q h => hA q (Nat.le_trans hS.1 h))) (hP := hP) (hwf := hwf) (hu := (by omega)) (hd := (by omega)) (u := u) (d := f)) gL_isVersion_X5_bestVersion rfl idX5_bestVersion ⟨Nat.le_of_ble_eq_true rfl, Nat.le_of_ble_eq_true rfl⟩ hP 0 rfl rfl rfl rfl hl.1 rfl (Nat.le_of_ble_eq_true rfl) dL_isVersion_12 ⟨Nat.le_of_ble_eq_true rfl, Nat.le_of_ble_eq_true rfl⟩ (fun v9 hv9 => ?_)
    subst hv9
    refine W.eq (g2 := F0 m 15 ls [.int ((vsm N Z (Z 6 u) (nI f) (N 0)).1)]) rfl ?_
    refine lv_istore (lv' := [(5, .int ((vsm N Z (Z 6 u) (nI f) (N 0)).1)), (4, .int (nI v)), (0, .ref (q 0)), (1, .int (nI u)), (2, .int (nI f)), (3, .int (nI w))]) hx hb dL_isVersion_15 hl (by decide) rfl (fun ls hl => ?_)
    refine lv_iconst (v := 1) hx hb dL_isVersion_17 (by decide) ?_
    refine lv_istore (lv' := [(6, .int 1), (5, .int ((vsm N Z (Z 6 u) (nI f) (N 0)).1)), (4, .int (nI v)), (0, .ref (q 0)), (1, .int (nI u)), (2, .int (nI f)), (3, .int (nI w))]) hx hb dL_isVersion_18 hl (by decide) rfl (fun ls hl => ?_)
    refine lv_iload hx hb dL_isVersion_20 (lv_at hl 2 rfl) ?_
    refine lv_if_lt (tgt := 68) hx hb dL_isVersion_22 (by decide) (fun c_10 => ?_) (fun c_10 => ?_)
    · replace c_10 := cn_lt (a := v) (b := 0) (by omega) (by omega) c_10
      exfalso; omega
    · replace c_10 := cn_nlt (a := v) (b := 0) (by omega) (by omega) c_10
      refine lv_aload_n hx hb dL_isVersion_25 rfl (lv_at hl 3 rfl) ?_
      refine lv_iload_n hx hb dL_isVersion_26 rfl (lv_at hl 4 rfl) ?_
      refine lv_iload hx hb dL_isVersion_27 (lv_at hl 2 rfl) ?_
      refine lv_iload_n hx hb dL_isVersion_29 rfl (lv_at hl 5 rfl) ?_
      refine wn_V S hkx hth (nX5_pledge l hl0 (sa := sa) (A9 := A) (h9 := (fun q h => hA q (Nat.le_trans hS.1 h))) (hP := hP) (hD := hD.weaken (fun _ _ _ _ => trivial)) (hwf := hwf) (hsc := (by omega)) (hu := (by omega)) (hv := hv) (hd := (by omega)) (u := u) (v := v) (d := f)) gL_isVersion_X5_pledge rfl idX5_pledge ⟨Nat.le_of_ble_eq_true rfl, Nat.le_of_ble_eq_true rfl⟩ hP 0 rfl rfl rfl rfl hl.1 rfl (Nat.le_of_ble_eq_true rfl) dL_isVersion_30 ⟨Nat.le_of_ble_eq_true rfl, Nat.le_of_ble_eq_true rfl⟩ hS (fr_in hD (fun q h => hA q (Nat.le_trans hS.1 h))) (fun v9 H locs hp9 hz1 hk1 hS => ?_)
      obtain ⟨rfl, hP⟩ := hp9
      have hP : va_P G vwCl (wMain T q a N (uPl Z u (nI v) (nI f)) (svB sc b) (psh sc M N) (psh sc Y Z) (svC sc) tx L cu er le nb nc) H := hP
      have hD : va_D A (wMain T q a N (uPl Z u (nI v) (nI f)) (svB sc b) (psh sc M N) (psh sc Y Z) (svC sc) tx L cu er le nb nc) := D_perm hD sv_addr
      have hth := hth0.kept hS.2.1
      refine W.eq (g2 := F0 m 33 ls [.int (Z 8 u)]) rfl ?_
      have hwg1 : wf N (uPl Z u (nI v) (nI f)) := wf_pl hwf (Or.inr ⟨_, hv, rfl, by rw [nI_toInt (by omega)]; omega⟩)
      have hsv1 := svC_bd (sc := sc) (by omega)
      refine lv_istore (lv' := [(7, .int (Z 8 u)), (6, .int 1), (5, .int ((vsm N Z (Z 6 u) (nI f) (N 0)).1)), (4, .int (nI v)), (0, .ref (q 0)), (1, .int (nI u)), (2, .int (nI f)), (3, .int (nI w))]) hx hb dL_isVersion_33 hl (by decide) rfl (fun ls hl => ?_)
      refine lv_aload_n hx hb dL_isVersion_35 rfl (lv_at hl 4 rfl) ?_
      refine lv_iload_n hx hb dL_isVersion_36 rfl (lv_at hl 5 rfl) ?_
      refine lv_iload_n hx hb dL_isVersion_37 rfl (lv_at hl 6 rfl) ?_
      refine rn_V S hkx hth (nX5_firstStranded l hl0 (sa := sa) (h9 := (fun q h => hA q (Nat.le_trans hS.1 h))) (hP := hP) (hwf := hwg1) (hu := (by omega)) (hd := (by omega)) (u := u) (d := f)) gL_isVersion_X5_firstStranded rfl idX5_firstStranded ⟨Nat.le_of_ble_eq_true rfl, Nat.le_of_ble_eq_true rfl⟩ hP 0 rfl rfl rfl rfl hl.1 rfl (Nat.le_of_ble_eq_true rfl) dL_isVersion_38 ⟨Nat.le_of_ble_eq_true rfl, Nat.le_of_ble_eq_true rfl⟩ (fun v9 hv9 => ?_)
      subst hv9
      refine W.eq (g2 := F0 m 41 ls [.int (fstD (uuB N (uPl Z u (nI v) (nI f)) u) f (1000 - f))]) rfl ?_
      refine lv_istore (lv' := [(8, .int (fstD (uuB N (uPl Z u (nI v) (nI f)) u) f (1000 - f))), (7, .int (Z 8 u)), (6, .int 1), (5, .int ((vsm N Z (Z 6 u) (nI f) (N 0)).1)), (4, .int (nI v)), (0, .ref (q 0)), (1, .int (nI u)), (2, .int (nI f)), (3, .int (nI w))]) hx hb dL_isVersion_41 hl (by decide) rfl (fun ls hl => ?_)
      refine lv_aload_n hx hb dL_isVersion_43 rfl (lv_at hl 5 rfl) ?_
      refine wn_V S hkx hth (nX5_undo l hl0 (sa := sa) (A9 := A) (h9 := (fun q h => hA q (Nat.le_trans hS.1 h))) (hP := hP) (hD := hD.weaken (fun _ _ _ _ => trivial)) (hwf := hwg1) (hsc := (by omega)) (h0 := (by omega)) ) gL_isVersion_X5_undo rfl idX5_undo ⟨Nat.le_of_ble_eq_true rfl, Nat.le_of_ble_eq_true rfl⟩ hP 0 rfl rfl rfl rfl hl.1 rfl (Nat.le_of_ble_eq_true rfl) dL_isVersion_44 ⟨Nat.le_of_ble_eq_true rfl, Nat.le_of_ble_eq_true rfl⟩ hS (fr_in hD (fun q h => hA q (Nat.le_trans hS.1 h))) (fun v9 H locs hp9 hz1 hk1 hS => ?_)
      obtain ⟨rfl, hP⟩ := hp9
      have hP : va_P G vwCl (wMain T q a ((psh sc M N) ((svC sc) - 1)) ((psh sc Y Z) ((svC sc) - 1)) (svB sc b) (psh sc M N) (psh sc Y Z) ((svC sc) - 1) tx L cu er le nb nc) H := hP
      have hD : va_D A (wMain T q a ((psh sc M N) ((svC sc) - 1)) ((psh sc Y Z) ((svC sc) - 1)) (svB sc b) (psh sc M N) (psh sc Y Z) ((svC sc) - 1) tx L cu er le nb nc) := D_perm hD (List.Perm.refl _)
      have hth := hth0.kept hS.2.1
      refine W.eq (g2 := F0 m 47 ls [.int (nI ((svC sc) - 1))]) rfl ?_
      obtain ⟨b2, M2, Y2, sc2, hsc2, hpm2, hP⟩ := un_st (show sc ≤ 4 by omega) (List.Perm.refl _) hP
      have hD : va_D A (wMain T q a N Z b2 M2 Y2 sc2 tx L cu er le nb nc) := D_perm hD0 hpm2
      refine lv_istore (lv' := [(7, .int (nI ((svC sc) - 1))), (8, .int (fstD (uuB N (uPl Z u (nI v) (nI f)) u) f (1000 - f))), (6, .int 1), (5, .int ((vsm N Z (Z 6 u) (nI f) (N 0)).1)), (4, .int (nI v)), (0, .ref (q 0)), (1, .int (nI u)), (2, .int (nI f)), (3, .int (nI w))]) hx hb dL_isVersion_47 hl (by decide) rfl (fun ls hl => ?_)
      refine lv_iload hx hb dL_isVersion_49 (lv_at hl 1 rfl) ?_
      refine lv_iconst (v := (-1)) hx hb dL_isVersion_51 (by decide) ?_
      refine lv_icmp_eq (tgt := 61) hx hb dL_isVersion_52 (by decide) (fun c_11 => ?_) (fun c_11 => ?_)
      · skip
        refine lv_iconst (v := 1) hx hb dL_isVersion_61 (by decide) ?_
        refine lv_goto (tgt := 66) hx hb dL_isVersion_62 (by decide) ?_
        refine lv_istore (lv' := [(6, .int 1), (7, .int (nI ((svC sc) - 1))), (8, .int (fstD (uuB N (uPl Z u (nI v) (nI f)) u) f (1000 - f))), (5, .int ((vsm N Z (Z 6 u) (nI f) (N 0)).1)), (4, .int (nI v)), (0, .ref (q 0)), (1, .int (nI u)), (2, .int (nI f)), (3, .int (nI w))]) hx hb dL_isVersion_66 hl (by decide) rfl (fun ls hl => ?_)
        refine lv_bipush (v := 100) hx hb dL_isVersion_68 (by decide) ?_
        refine lv_istore (lv' := [(7, .int 100), (6, .int 1), (8, .int (fstD (uuB N (uPl Z u (nI v) (nI f)) u) f (1000 - f))), (5, .int ((vsm N Z (Z 6 u) (nI f) (N 0)).1)), (4, .int (nI v)), (0, .ref (q 0)), (1, .int (nI u)), (2, .int (nI f)), (3, .int (nI w))]) hx hb dL_isVersion_70 hl (by decide) rfl (fun ls hl => ?_)
        refine lv_iconst (v := (-1)) hx hb dL_isVersion_72 (by decide) ?_
        refine lv_istore (lv' := [(8, .int (-1)), (7, .int 100), (6, .int 1), (5, .int ((vsm N Z (Z 6 u) (nI f) (N 0)).1)), (4, .int (nI v)), (0, .ref (q 0)), (1, .int (nI u)), (2, .int (nI f)), (3, .int (nI w))]) hx hb dL_isVersion_73 hl (by decide) rfl (fun ls hl => ?_)
        refine lv_aload_n hx hb dL_isVersion_75 rfl (lv_at hl 5 rfl) ?_
        refine lv_iconst (v := 0) hx hb dL_isVersion_76 (by decide) ?_
        refine rn_V S hkx hth (nX5_value l hl0 (sa := sa) (h9 := (fun q h => hA q (Nat.le_trans hS.1 h))) (hP := hP) (hwf := hwf) (hw := (by omega)) (w := 0)) gL_isVersion_X5_value rfl idX5_value ⟨Nat.le_of_ble_eq_true rfl, Nat.le_of_ble_eq_true rfl⟩ hP 0 rfl rfl rfl rfl hl.1 rfl (Nat.le_of_ble_eq_true rfl) dL_isVersion_77 ⟨Nat.le_of_ble_eq_true rfl, Nat.le_of_ble_eq_true rfl⟩ (fun v9 hv9 => ?_)
        subst hv9
        refine W.eq (g2 := F0 m 80 ls [.int (nI (N 0))]) rfl ?_
        refine lv_iconst (v := 1) hx hb dL_isVersion_80 (by decide) ?_
        refine lv_isub hx hb dL_isVersion_81 ?_
        refine lv_istore (lv' := [(9, .int ((nI (N 0)) - 1)), (8, .int (-1)), (7, .int 100), (6, .int 1), (5, .int ((vsm N Z (Z 6 u) (nI f) (N 0)).1)), (4, .int (nI v)), (0, .ref (q 0)), (1, .int (nI u)), (2, .int (nI f)), (3, .int (nI w))]) hx hb dL_isVersion_82 hl (by decide) rfl (fun ls hl => ?_)
        have L84 : ∀ (fuel : Nat) (k : Nat) (y z : Int32) (b9 : Nat → Nat → Nat) (M9 : Nat → Nat → Nat) (Y9 : Nat → Nat → Nat → Int32) (sc9 : Nat), k < fuel → k ≤ N 0 → sc9 ≤ 4 → ((wMain T q a N Z b9 M9 Y9 sc9 tx L cu er le nb nc).map Prod.fst).Perm ((wMain T q a N Z b M Y sc tx L cu er le nb nc).map Prod.fst) → bsP N Z (Z 6 u) (nI f) k (N 0) y z → (y = -1 → z = 100) → ∀ (cs ns : Nat), cs + 2 * k ≤ 20 → ns + 12 * k ≤ 120 → ∀ (H : Heap) (locs : List Loc), va_P G vwCl (wMain T q a N Z b9 M9 Y9 sc9 tx L cu er le nb nc) H → va_D A (wMain T q a N Z b9 M9 Y9 sc9 tx L cu er le nb nc) → va_S A H0 H locs → ∀ ls : Array Slot, lv_has ls 12 [(0, .ref (q 0)), (1, .int (nI u)), (2, .int (nI f)), (3, .int (nI w)), (4, .int (nI v)), (5, .int ((vsm N Z (Z 6 u) (nI f) (N 0)).1)), (6, .int 1), (7, .int z), (8, .int y), (9, .int ((nI k) - 1))] → W p l e (rmx 10 180 24) s m ([.ref (q 0), .int (nI u), .int (nI f), .int (nI w)] : List Value).toArray below meth c H locs cs ns Q (F0 m 84 ls []) := by
          intro fuel
          induction fuel with
          | zero => intro k y z b9 M9 Y9 sc9 hm; exact absurd hm (Nat.not_lt_zero _)
          | succ fuel ih84 =>
            intro k y z b9 M9 Y9 sc9 hm84 hk hsc9 hpm9 hbs hm1 cs ns hcs hns H locs hP hD hS ls hl
            have hth := hth0.kept hS.2.1
            refine lv_iload hx hb dL_isVersion_84 (lv_at hl 9 rfl) ?_
            refine lv_if_lt (tgt := 176) hx hb dL_isVersion_86 (by decide) (fun c_12 => ?_) (fun c_12 => ?_)
            · have c_12n := Int32.not_le.mpr c_12
              refine lv_iload hx hb dL_isVersion_176 (lv_at hl 6 rfl) ?_
              refine lv_if_eq (tgt := 192) hx hb dL_isVersion_178 (by decide) (fun c_13 => ?_) (fun c_13 => ?_)
              · exact absurd c_13 (by decide)
              · replace c_13 := cn_ne (a := 1) (b := 0) (by omega) (by omega) c_13
                refine lv_iload hx hb dL_isVersion_181 (lv_at hl 5 rfl) ?_
                refine lv_iload hx hb dL_isVersion_183 (lv_at hl 8 rfl) ?_
                refine lv_icmp_ne (tgt := 192) hx hb dL_isVersion_185 (by decide) (fun c_14 => ?_) (fun c_14 => ?_)
                · exact absurd (bsP_one (vsm_sp N Z (Z 6 u) (nI f) (N 0) (by omega)) (pm_0 hk c_12 hbs)) c_14
                · skip
                  refine lv_iconst (v := 1) hx hb dL_isVersion_188 (by decide) ?_
                  refine lv_goto (tgt := 193) hx hb dL_isVersion_189 (by decide) ?_
                  exact hret _ H _ _ _ _ _ (show some (Value.int 1) = some (Value.int 1) ∧ wst G T q a N Z b tx L cu er le nb nc H from ⟨rfl, wst_of hsc9 hpm9 hP⟩) rfl hS (show cs ≤ 24 by omega) (show ns ≤ 6 * 24 by omega) dL_isVersion_193
            · have c_12n := Int32.not_lt.mp c_12
              obtain ⟨j, rfl⟩ : ∃ j, k = j + 1 := pm_ge (by omega) c_12
              rw [nI_pred] at hl
              refine lv_iload_n hx hb dL_isVersion_89 rfl (lv_at hl 2 rfl) ?_
              refine lv_aload_n hx hb dL_isVersion_90 rfl (lv_at hl 0 rfl) ?_
              refine lv_iload hx hb dL_isVersion_91 (lv_at hl 9 rfl) ?_
              refine lv_iconst (v := 0) hx hb dL_isVersion_93 (by decide) ?_
              refine rn_V S hkx hth (nX5_version l hl0 (sa := sa) (h9 := (fun q h => hA q (Nat.le_trans hS.1 h))) (hP := hP) (hwf := hwf) (hv := (by omega)) (hw := (by omega)) (v := j) (w := 0)) gL_isVersion_X5_version rfl idX5_version ⟨Nat.le_of_ble_eq_true rfl, Nat.le_of_ble_eq_true rfl⟩ hP 0 rfl rfl rfl rfl hl.1 rfl (Nat.le_of_ble_eq_true rfl) dL_isVersion_94 ⟨(show cs + 2 ≤ 24 by omega), (show ns + 6 * 2 ≤ 6 * 24 by omega)⟩ (fun v9 hv9 => ?_)
              subst hv9
              refine W.eq (g2 := F0 m 97 ls [.int (Z 1 j), .int (nI f)]) rfl ?_
              refine lv_icmp_lt (tgt := 170) hx hb dL_isVersion_97 (by decide) (fun c_15 => ?_) (fun c_15 => ?_)
              · have c_15n := Int32.not_le.mpr c_15
                refine lv_iinc (v := ((nI j) - 1)) (lv' := [(9, .int ((nI j) - 1)), (0, .ref (q 0)), (1, .int (nI u)), (2, .int (nI f)), (3, .int (nI w)), (4, .int (nI v)), (5, .int ((vsm N Z (Z 6 u) (nI f) (N 0)).1)), (6, .int 1), (7, .int z), (8, .int y)]) hx hb dL_isVersion_170 hl (k := 9) rfl (dec1 _) (by decide) rfl (fun ls hl => ?_)
                refine lv_goto (tgt := 84) hx hb dL_isVersion_173 (by decide) ?_
                exact ih84 j y z b9 M9 Y9 sc9 (by omega) (by omega) (by omega) (by exact hpm9) (by exact bsP_no hbs (al_f1 c_15)) (by exact hm1) cs ns (by omega) (by omega) _ _ hP hD hS _ (lv_sub hl [1, 2, 3, 4, 5, 6, 7, 8, 9, 0] rfl)
              · have c_15n := Int32.not_lt.mp c_15
                refine lv_iload_n hx hb dL_isVersion_100 rfl (lv_at hl 2 rfl) ?_
                refine lv_aload_n hx hb dL_isVersion_101 rfl (lv_at hl 0 rfl) ?_
                refine lv_iload hx hb dL_isVersion_102 (lv_at hl 9 rfl) ?_
                refine lv_iconst (v := 1) hx hb dL_isVersion_104 (by decide) ?_
                refine rn_V S hkx hth (nX5_version l hl0 (sa := sa) (h9 := (fun q h => hA q (Nat.le_trans hS.1 h))) (hP := hP) (hwf := hwf) (hv := (by omega)) (hw := (by omega)) (v := j) (w := 1)) gL_isVersion_X5_version rfl idX5_version ⟨Nat.le_of_ble_eq_true rfl, Nat.le_of_ble_eq_true rfl⟩ hP 0 rfl rfl rfl rfl hl.1 rfl (Nat.le_of_ble_eq_true rfl) dL_isVersion_105 ⟨(show cs + 2 ≤ 24 by omega), (show ns + 6 * 2 ≤ 6 * 24 by omega)⟩ (fun v9 hv9 => ?_)
                subst hv9
                refine W.eq (g2 := F0 m 108 ls [.int (Z 2 j), .int (nI f)]) rfl ?_
                refine lv_icmp_ge (tgt := 170) hx hb dL_isVersion_108 (by decide) (fun c_16 => ?_) (fun c_16 => ?_)
                · have c_16n := Int32.not_lt.mpr c_16
                  refine lv_iinc (v := ((nI j) - 1)) (lv' := [(9, .int ((nI j) - 1)), (0, .ref (q 0)), (1, .int (nI u)), (2, .int (nI f)), (3, .int (nI w)), (4, .int (nI v)), (5, .int ((vsm N Z (Z 6 u) (nI f) (N 0)).1)), (6, .int 1), (7, .int z), (8, .int y)]) hx hb dL_isVersion_170 hl (k := 9) rfl (dec1 _) (by decide) rfl (fun ls hl => ?_)
                  refine lv_goto (tgt := 84) hx hb dL_isVersion_173 (by decide) ?_
                  exact ih84 j y z b9 M9 Y9 sc9 (by omega) (by omega) (by omega) (by exact hpm9) (by exact bsP_no hbs (al_f2 c_16)) (by exact hm1) cs ns (by omega) (by omega) _ _ hP hD hS _ (lv_sub hl [1, 2, 3, 4, 5, 6, 7, 8, 9, 0] rfl)
                · have c_16n := Int32.not_le.mp c_16
                  have ha : aliv Z j (nI f) = true := al_t c_15 c_16
                  refine lv_aload_n hx hb dL_isVersion_111 rfl (lv_at hl 0 rfl) ?_
                  refine lv_iload_n hx hb dL_isVersion_112 rfl (lv_at hl 1 rfl) ?_
                  refine lv_iload hx hb dL_isVersion_113 (lv_at hl 9 rfl) ?_
                  refine lv_iload_n hx hb dL_isVersion_115 rfl (lv_at hl 2 rfl) ?_
                  refine wn_V S hkx hth (nX5_pledge l hl0 (sa := sa) (A9 := A) (h9 := (fun q h => hA q (Nat.le_trans hS.1 h))) (hP := hP) (hD := hD.weaken (fun _ _ _ _ => trivial)) (hwf := hwf) (hsc := (by omega)) (hu := (by omega)) (hv := (by omega)) (hd := (by omega)) (u := u) (v := j) (d := f)) gL_isVersion_X5_pledge rfl idX5_pledge ⟨Nat.le_of_ble_eq_true rfl, Nat.le_of_ble_eq_true rfl⟩ hP 0 rfl rfl rfl rfl hl.1 rfl (Nat.le_of_ble_eq_true rfl) dL_isVersion_116 ⟨(show cs + 1 ≤ 24 by omega), (show ns + 6 * 1 ≤ 6 * 24 by omega)⟩ hS (fr_in hD (fun q h => hA q (Nat.le_trans hS.1 h))) (fun v9 H locs hp9 hz1 hk1 hS => ?_)
                  obtain ⟨rfl, hP⟩ := hp9
                  have hP : va_P G vwCl (wMain T q a N (uPl Z u (nI j) (nI f)) (svB sc9 b9) (psh sc9 M9 N) (psh sc9 Y9 Z) (svC sc9) tx L cu er le nb nc) H := hP
                  have hD : va_D A (wMain T q a N (uPl Z u (nI j) (nI f)) (svB sc9 b9) (psh sc9 M9 N) (psh sc9 Y9 Z) (svC sc9) tx L cu er le nb nc) := D_perm hD sv_addr
                  have hth := hth0.kept hS.2.1
                  refine W.eq (g2 := F0 m 119 ls [.int (Z 8 u)]) rfl ?_
                  have hwg3 : wf N (uPl Z u (nI j) (nI f)) := wf_pl hwf (Or.inr ⟨_, (show j < N 0 by omega), rfl, by rw [nI_toInt (by omega)]; omega⟩)
                  have hsv3 := svC_bd (sc := sc9) (by omega)
                  refine lv_istore (lv' := [(10, .int (Z 8 u)), (0, .ref (q 0)), (1, .int (nI u)), (2, .int (nI f)), (3, .int (nI w)), (4, .int (nI v)), (5, .int ((vsm N Z (Z 6 u) (nI f) (N 0)).1)), (6, .int 1), (7, .int z), (8, .int y), (9, .int (nI j))]) hx hb dL_isVersion_119 hl (by decide) rfl (fun ls hl => ?_)
                  refine lv_aload_n hx hb dL_isVersion_121 rfl (lv_at hl 1 rfl) ?_
                  refine lv_iload_n hx hb dL_isVersion_122 rfl (lv_at hl 2 rfl) ?_
                  refine lv_iload_n hx hb dL_isVersion_123 rfl (lv_at hl 3 rfl) ?_
                  refine rn_V S hkx hth (nX5_missing l hl0 (sa := sa) (h9 := (fun q h => hA q (Nat.le_trans hS.1 h))) (hP := hP) (hwf := hwg3) (hu := (by omega)) (hd := (by omega)) (u := u) (d := f)) gL_isVersion_X5_missing rfl idX5_missing ⟨Nat.le_of_ble_eq_true rfl, Nat.le_of_ble_eq_true rfl⟩ hP 0 rfl rfl rfl rfl hl.1 rfl (Nat.le_of_ble_eq_true rfl) dL_isVersion_124 ⟨(show cs + 1 + 2 ≤ 24 by omega), (show ns + 6 * 1 + 6 * 2 ≤ 6 * 24 by omega)⟩ (fun v9 hv9 => ?_)
                  subst hv9
                  refine W.eq (g2 := F0 m 127 ls [.int (unU N (uPl Z u (nI j) (nI f)) u (nI f))]) rfl ?_
                  refine W.eq (g2 := F0 m 127 ls [.int (uns N Z (Z 6 u) j (nI f))]) (congrArg (fun z9 => F0 m 127 ls (.int z9 :: [])) ((unU_pl hwf hu (show j < N 0 by omega) (show f ≤ 999 by omega) (show f ≤ 999 by omega)).trans (by rw [if_pos (Nat.le_refl f)]))) ?_
                  refine ro_S S hkx (mL_bits l (x := (uns N Z (Z 6 u) j (nI f)))) gL_isVersion_L_bits rfl idL_bits.2 ⟨Nat.le_of_ble_eq_true rfl, Nat.le_of_ble_eq_true rfl⟩ rfl hl.1 rfl (Nat.le_of_ble_eq_true rfl) dL_isVersion_127 ⟨(show cs + 1 ≤ 24 by omega), (show ns + 6 * 1 ≤ 6 * 24 by omega)⟩ (fun r9 hr9 => ?_)
                  subst hr9
                  refine W.eq (g2 := F0 m 130 ls [.int (bcM (uns N Z (Z 6 u) j (nI f)) 10)]) rfl ?_
                  refine W.eq (g2 := F0 m 130 ls [.int (bc (uns N Z (Z 6 u) j (nI f)))]) (congrArg (fun z9 => F0 m 130 ls (.int z9 :: [])) (bcM_uns hwf hu j (nI f))) ?_
                  refine lv_istore (lv' := [(11, .int (bc (uns N Z (Z 6 u) j (nI f)))), (10, .int (Z 8 u)), (0, .ref (q 0)), (1, .int (nI u)), (2, .int (nI f)), (3, .int (nI w)), (4, .int (nI v)), (5, .int ((vsm N Z (Z 6 u) (nI f) (N 0)).1)), (6, .int 1), (7, .int z), (8, .int y), (9, .int (nI j))]) hx hb dL_isVersion_130 hl (by decide) rfl (fun ls hl => ?_)
                  refine lv_aload_n hx hb dL_isVersion_132 rfl (lv_at hl 2 rfl) ?_
                  refine wn_V S hkx hth (nX5_undo l hl0 (sa := sa) (A9 := A) (h9 := (fun q h => hA q (Nat.le_trans hS.1 h))) (hP := hP) (hD := hD.weaken (fun _ _ _ _ => trivial)) (hwf := hwg3) (hsc := (by omega)) (h0 := (by omega)) ) gL_isVersion_X5_undo rfl idX5_undo ⟨Nat.le_of_ble_eq_true rfl, Nat.le_of_ble_eq_true rfl⟩ hP 0 rfl rfl rfl rfl hl.1 rfl (Nat.le_of_ble_eq_true rfl) dL_isVersion_133 ⟨(show cs + 1 + 1 ≤ 24 by omega), (show ns + 6 * 1 + 6 * 1 ≤ 6 * 24 by omega)⟩ hS (fr_in hD (fun q h => hA q (Nat.le_trans hS.1 h))) (fun v9 H locs hp9 hz1 hk1 hS => ?_)
                  obtain ⟨rfl, hP⟩ := hp9
                  have hP : va_P G vwCl (wMain T q a ((psh sc9 M9 N) ((svC sc9) - 1)) ((psh sc9 Y9 Z) ((svC sc9) - 1)) (svB sc9 b9) (psh sc9 M9 N) (psh sc9 Y9 Z) ((svC sc9) - 1) tx L cu er le nb nc) H := hP
                  have hD : va_D A (wMain T q a ((psh sc9 M9 N) ((svC sc9) - 1)) ((psh sc9 Y9 Z) ((svC sc9) - 1)) (svB sc9 b9) (psh sc9 M9 N) (psh sc9 Y9 Z) ((svC sc9) - 1) tx L cu er le nb nc) := D_perm hD (List.Perm.refl _)
                  have hth := hth0.kept hS.2.1
                  refine W.eq (g2 := F0 m 136 ls [.int (nI ((svC sc9) - 1))]) rfl ?_
                  obtain ⟨b4, M4, Y4, sc4, hsc4, hpm4, hP⟩ := un_st (show sc9 ≤ 4 by omega) hpm9 hP
                  have hD : va_D A (wMain T q a N Z b4 M4 Y4 sc4 tx L cu er le nb nc) := D_perm hD0 hpm4
                  refine lv_istore (lv' := [(10, .int (nI ((svC sc9) - 1))), (11, .int (bc (uns N Z (Z 6 u) j (nI f)))), (0, .ref (q 0)), (1, .int (nI u)), (2, .int (nI f)), (3, .int (nI w)), (4, .int (nI v)), (5, .int ((vsm N Z (Z 6 u) (nI f) (N 0)).1)), (6, .int 1), (7, .int z), (8, .int y), (9, .int (nI j))]) hx hb dL_isVersion_136 hl (by decide) rfl (fun ls hl => ?_)
                  refine lv_iload hx hb dL_isVersion_138 (lv_at hl 1 rfl) ?_
                  refine lv_iload hx hb dL_isVersion_140 (lv_at hl 9 rfl) ?_
                  refine lv_icmp_gt (tgt := 150) hx hb dL_isVersion_142 (by decide) (fun c_17 => ?_) (fun c_17 => ?_)
                  · have c_17n := Int32.not_le.mpr c_17
                    refine lv_iload hx hb dL_isVersion_150 (lv_at hl 10 rfl) ?_
                    refine lv_istore (lv' := [(8, .int y), (10, .int (nI ((svC sc9) - 1))), (11, .int (bc (uns N Z (Z 6 u) j (nI f)))), (0, .ref (q 0)), (1, .int (nI u)), (2, .int (nI f)), (3, .int (nI w)), (4, .int (nI v)), (5, .int ((vsm N Z (Z 6 u) (nI f) (N 0)).1)), (6, .int 1), (7, .int z), (9, .int (nI j))]) hx hb dL_isVersion_152 hl (by decide) rfl (fun ls hl => ?_)
                    refine lv_iload hx hb dL_isVersion_154 (lv_at hl 2 rfl) ?_
                    refine lv_iload hx hb dL_isVersion_156 (lv_at hl 10 rfl) ?_
                    refine lv_icmp_gt (tgt := 166) hx hb dL_isVersion_158 (by decide) (fun c_18 => ?_) (fun c_18 => ?_)
                    · have c_18n := Int32.not_le.mpr c_18
                      refine lv_iload hx hb dL_isVersion_166 (lv_at hl 10 rfl) ?_
                      refine lv_istore (lv' := [(7, .int z), (8, .int y), (10, .int (nI ((svC sc9) - 1))), (11, .int (bc (uns N Z (Z 6 u) j (nI f)))), (0, .ref (q 0)), (1, .int (nI u)), (2, .int (nI f)), (3, .int (nI w)), (4, .int (nI v)), (5, .int ((vsm N Z (Z 6 u) (nI f) (N 0)).1)), (6, .int 1), (9, .int (nI j))]) hx hb dL_isVersion_168 hl (by decide) rfl (fun ls hl => ?_)
                      refine lv_iinc (v := ((nI j) - 1)) (lv' := [(9, .int ((nI j) - 1)), (7, .int z), (8, .int y), (10, .int (nI ((svC sc9) - 1))), (11, .int (bc (uns N Z (Z 6 u) j (nI f)))), (0, .ref (q 0)), (1, .int (nI u)), (2, .int (nI f)), (3, .int (nI w)), (4, .int (nI v)), (5, .int ((vsm N Z (Z 6 u) (nI f) (N 0)).1)), (6, .int 1)]) hx hb dL_isVersion_170 hl (k := 11) rfl (dec1 _) (by decide) rfl (fun ls hl => ?_)
                      refine lv_goto (tgt := 84) hx hb dL_isVersion_173 (by decide) ?_
                      exact ih84 j y z b4 M4 Y4 sc4 (by omega) (by omega) (by omega) (by exact hpm4) (by exact bsP_ke hbs (fun q9 => absurd (hm1 q9 ▸ bc_100 hwf hu j (nI f)) c_17n) c_17n) (by exact hm1) (cs + 1 + 1) (ns + 6 * 1 + 6 * 1) (by omega) (by omega) _ _ hP hD hS _ (lv_sub hl [5, 6, 7, 8, 9, 10, 11, 1, 2, 0] rfl)
                    · exact absurd c_17 c_18
                  · have c_17n := Int32.not_lt.mp c_17
                    refine lv_iload hx hb dL_isVersion_145 (lv_at hl 11 rfl) ?_
                    refine lv_goto (tgt := 152) hx hb dL_isVersion_147 (by decide) ?_
                    refine lv_istore (lv' := [(8, .int (nI j)), (10, .int (nI ((svC sc9) - 1))), (11, .int (bc (uns N Z (Z 6 u) j (nI f)))), (0, .ref (q 0)), (1, .int (nI u)), (2, .int (nI f)), (3, .int (nI w)), (4, .int (nI v)), (5, .int ((vsm N Z (Z 6 u) (nI f) (N 0)).1)), (6, .int 1), (7, .int z), (9, .int (nI j))]) hx hb dL_isVersion_152 hl (by decide) rfl (fun ls hl => ?_)
                    refine lv_iload hx hb dL_isVersion_154 (lv_at hl 2 rfl) ?_
                    refine lv_iload hx hb dL_isVersion_156 (lv_at hl 10 rfl) ?_
                    refine lv_icmp_gt (tgt := 166) hx hb dL_isVersion_158 (by decide) (fun c_19 => ?_) (fun c_19 => ?_)
                    · exact absurd c_19 c_17
                    · have c_19n := Int32.not_lt.mp c_19
                      refine lv_iload hx hb dL_isVersion_161 (lv_at hl 2 rfl) ?_
                      refine lv_goto (tgt := 168) hx hb dL_isVersion_163 (by decide) ?_
                      refine lv_istore (lv' := [(7, .int (bc (uns N Z (Z 6 u) j (nI f)))), (8, .int (nI j)), (10, .int (nI ((svC sc9) - 1))), (11, .int (bc (uns N Z (Z 6 u) j (nI f)))), (0, .ref (q 0)), (1, .int (nI u)), (2, .int (nI f)), (3, .int (nI w)), (4, .int (nI v)), (5, .int ((vsm N Z (Z 6 u) (nI f) (N 0)).1)), (6, .int 1), (9, .int (nI j))]) hx hb dL_isVersion_168 hl (by decide) rfl (fun ls hl => ?_)
                      refine lv_iinc (v := ((nI j) - 1)) (lv' := [(9, .int ((nI j) - 1)), (7, .int (bc (uns N Z (Z 6 u) j (nI f)))), (8, .int (nI j)), (10, .int (nI ((svC sc9) - 1))), (11, .int (bc (uns N Z (Z 6 u) j (nI f)))), (0, .ref (q 0)), (1, .int (nI u)), (2, .int (nI f)), (3, .int (nI w)), (4, .int (nI v)), (5, .int ((vsm N Z (Z 6 u) (nI f) (N 0)).1)), (6, .int 1)]) hx hb dL_isVersion_170 hl (k := 11) rfl (dec1 _) (by decide) rfl (fun ls hl => ?_)
                      refine lv_goto (tgt := 84) hx hb dL_isVersion_173 (by decide) ?_
                      exact ih84 j (nI j) (bc (uns N Z (Z 6 u) j (nI f))) b4 M4 Y4 sc4 (by omega) (by omega) (by omega) (by exact hpm4) (by exact bsP_ta (by omega) hbs ha c_17n) (by exact fun q9 => absurd q9 (nIm1 (by omega))) (cs + 1 + 1) (ns + 6 * 1 + 6 * 1) (by omega) (by omega) _ _ hP hD hS _ (lv_sub hl [5, 6, 7, 8, 9, 10, 11, 1, 2, 0] rfl)
        exact L84 _ (N 0) (-1) 100 b2 M2 Y2 sc2 (Nat.lt_succ_self _) (by omega) (by omega) (by exact hpm2) (by exact Or.inl ⟨rfl, fun v a b => by omega⟩) (by exact fun _ => rfl) (0 + 1 + 1) (0 + 6 * 1 + 6 * 1) (by omega) (by omega) _ _ hP hD hS _ (lv_sub hl [6, 7, 8, 9, 5, 4, 3, 2, 1, 0] rfl)
      · skip
        refine lv_iload hx hb dL_isVersion_55 (lv_at hl 1 rfl) ?_
        refine lv_iload_n hx hb dL_isVersion_57 rfl (lv_at hl 8 rfl) ?_
        refine lv_icmp_le (tgt := 65) hx hb dL_isVersion_58 (by decide) (fun c_20 => ?_) (fun c_20 => ?_)
        · exact (ch_ok hwf hu hv (by omega) hw hz2).elim (fun z9 => absurd z9 c_11) (fun z9 => absurd c_20 (Int32.not_le.mpr z9))
        · have c_20n := Int32.not_le.mp c_20
          refine lv_iconst (v := 1) hx hb dL_isVersion_61 (by decide) ?_
          refine lv_goto (tgt := 66) hx hb dL_isVersion_62 (by decide) ?_
          refine lv_istore (lv' := [(6, .int 1), (7, .int (nI ((svC sc) - 1))), (8, .int (fstD (uuB N (uPl Z u (nI v) (nI f)) u) f (1000 - f))), (5, .int ((vsm N Z (Z 6 u) (nI f) (N 0)).1)), (4, .int (nI v)), (0, .ref (q 0)), (1, .int (nI u)), (2, .int (nI f)), (3, .int (nI w))]) hx hb dL_isVersion_66 hl (by decide) rfl (fun ls hl => ?_)
          refine lv_bipush (v := 100) hx hb dL_isVersion_68 (by decide) ?_
          refine lv_istore (lv' := [(7, .int 100), (6, .int 1), (8, .int (fstD (uuB N (uPl Z u (nI v) (nI f)) u) f (1000 - f))), (5, .int ((vsm N Z (Z 6 u) (nI f) (N 0)).1)), (4, .int (nI v)), (0, .ref (q 0)), (1, .int (nI u)), (2, .int (nI f)), (3, .int (nI w))]) hx hb dL_isVersion_70 hl (by decide) rfl (fun ls hl => ?_)
          refine lv_iconst (v := (-1)) hx hb dL_isVersion_72 (by decide) ?_
          refine lv_istore (lv' := [(8, .int (-1)), (7, .int 100), (6, .int 1), (5, .int ((vsm N Z (Z 6 u) (nI f) (N 0)).1)), (4, .int (nI v)), (0, .ref (q 0)), (1, .int (nI u)), (2, .int (nI f)), (3, .int (nI w))]) hx hb dL_isVersion_73 hl (by decide) rfl (fun ls hl => ?_)
          refine lv_aload_n hx hb dL_isVersion_75 rfl (lv_at hl 5 rfl) ?_
          refine lv_iconst (v := 0) hx hb dL_isVersion_76 (by decide) ?_
          refine rn_V S hkx hth (nX5_value l hl0 (sa := sa) (h9 := (fun q h => hA q (Nat.le_trans hS.1 h))) (hP := hP) (hwf := hwf) (hw := (by omega)) (w := 0)) gL_isVersion_X5_value rfl idX5_value ⟨Nat.le_of_ble_eq_true rfl, Nat.le_of_ble_eq_true rfl⟩ hP 0 rfl rfl rfl rfl hl.1 rfl (Nat.le_of_ble_eq_true rfl) dL_isVersion_77 ⟨Nat.le_of_ble_eq_true rfl, Nat.le_of_ble_eq_true rfl⟩ (fun v9 hv9 => ?_)
          subst hv9
          refine W.eq (g2 := F0 m 80 ls [.int (nI (N 0))]) rfl ?_
          refine lv_iconst (v := 1) hx hb dL_isVersion_80 (by decide) ?_
          refine lv_isub hx hb dL_isVersion_81 ?_
          refine lv_istore (lv' := [(9, .int ((nI (N 0)) - 1)), (8, .int (-1)), (7, .int 100), (6, .int 1), (5, .int ((vsm N Z (Z 6 u) (nI f) (N 0)).1)), (4, .int (nI v)), (0, .ref (q 0)), (1, .int (nI u)), (2, .int (nI f)), (3, .int (nI w))]) hx hb dL_isVersion_82 hl (by decide) rfl (fun ls hl => ?_)
          have L84 : ∀ (fuel : Nat) (k : Nat) (y z : Int32) (b9 : Nat → Nat → Nat) (M9 : Nat → Nat → Nat) (Y9 : Nat → Nat → Nat → Int32) (sc9 : Nat), k < fuel → k ≤ N 0 → sc9 ≤ 4 → ((wMain T q a N Z b9 M9 Y9 sc9 tx L cu er le nb nc).map Prod.fst).Perm ((wMain T q a N Z b M Y sc tx L cu er le nb nc).map Prod.fst) → bsP N Z (Z 6 u) (nI f) k (N 0) y z → (y = -1 → z = 100) → ∀ (cs ns : Nat), cs + 2 * k ≤ 20 → ns + 12 * k ≤ 120 → ∀ (H : Heap) (locs : List Loc), va_P G vwCl (wMain T q a N Z b9 M9 Y9 sc9 tx L cu er le nb nc) H → va_D A (wMain T q a N Z b9 M9 Y9 sc9 tx L cu er le nb nc) → va_S A H0 H locs → ∀ ls : Array Slot, lv_has ls 12 [(0, .ref (q 0)), (1, .int (nI u)), (2, .int (nI f)), (3, .int (nI w)), (4, .int (nI v)), (5, .int ((vsm N Z (Z 6 u) (nI f) (N 0)).1)), (6, .int 1), (7, .int z), (8, .int y), (9, .int ((nI k) - 1))] → W p l e (rmx 10 180 24) s m ([.ref (q 0), .int (nI u), .int (nI f), .int (nI w)] : List Value).toArray below meth c H locs cs ns Q (F0 m 84 ls []) := by
            intro fuel
            induction fuel with
            | zero => intro k y z b9 M9 Y9 sc9 hm; exact absurd hm (Nat.not_lt_zero _)
            | succ fuel ih84 =>
              intro k y z b9 M9 Y9 sc9 hm84 hk hsc9 hpm9 hbs hm1 cs ns hcs hns H locs hP hD hS ls hl
              have hth := hth0.kept hS.2.1
              refine lv_iload hx hb dL_isVersion_84 (lv_at hl 9 rfl) ?_
              refine lv_if_lt (tgt := 176) hx hb dL_isVersion_86 (by decide) (fun c_21 => ?_) (fun c_21 => ?_)
              · have c_21n := Int32.not_le.mpr c_21
                refine lv_iload hx hb dL_isVersion_176 (lv_at hl 6 rfl) ?_
                refine lv_if_eq (tgt := 192) hx hb dL_isVersion_178 (by decide) (fun c_22 => ?_) (fun c_22 => ?_)
                · exact absurd c_22 (by decide)
                · replace c_22 := cn_ne (a := 1) (b := 0) (by omega) (by omega) c_22
                  refine lv_iload hx hb dL_isVersion_181 (lv_at hl 5 rfl) ?_
                  refine lv_iload hx hb dL_isVersion_183 (lv_at hl 8 rfl) ?_
                  refine lv_icmp_ne (tgt := 192) hx hb dL_isVersion_185 (by decide) (fun c_23 => ?_) (fun c_23 => ?_)
                  · exact absurd (bsP_one (vsm_sp N Z (Z 6 u) (nI f) (N 0) (by omega)) (pm_0 hk c_21 hbs)) c_23
                  · skip
                    refine lv_iconst (v := 1) hx hb dL_isVersion_188 (by decide) ?_
                    refine lv_goto (tgt := 193) hx hb dL_isVersion_189 (by decide) ?_
                    exact hret _ H _ _ _ _ _ (show some (Value.int 1) = some (Value.int 1) ∧ wst G T q a N Z b tx L cu er le nb nc H from ⟨rfl, wst_of hsc9 hpm9 hP⟩) rfl hS (show cs ≤ 24 by omega) (show ns ≤ 6 * 24 by omega) dL_isVersion_193
              · have c_21n := Int32.not_lt.mp c_21
                obtain ⟨j, rfl⟩ : ∃ j, k = j + 1 := pm_ge (by omega) c_21
                rw [nI_pred] at hl
                refine lv_iload_n hx hb dL_isVersion_89 rfl (lv_at hl 2 rfl) ?_
                refine lv_aload_n hx hb dL_isVersion_90 rfl (lv_at hl 0 rfl) ?_
                refine lv_iload hx hb dL_isVersion_91 (lv_at hl 9 rfl) ?_
                refine lv_iconst (v := 0) hx hb dL_isVersion_93 (by decide) ?_
                refine rn_V S hkx hth (nX5_version l hl0 (sa := sa) (h9 := (fun q h => hA q (Nat.le_trans hS.1 h))) (hP := hP) (hwf := hwf) (hv := (by omega)) (hw := (by omega)) (v := j) (w := 0)) gL_isVersion_X5_version rfl idX5_version ⟨Nat.le_of_ble_eq_true rfl, Nat.le_of_ble_eq_true rfl⟩ hP 0 rfl rfl rfl rfl hl.1 rfl (Nat.le_of_ble_eq_true rfl) dL_isVersion_94 ⟨(show cs + 2 ≤ 24 by omega), (show ns + 6 * 2 ≤ 6 * 24 by omega)⟩ (fun v9 hv9 => ?_)
                subst hv9
                refine W.eq (g2 := F0 m 97 ls [.int (Z 1 j), .int (nI f)]) rfl ?_
                refine lv_icmp_lt (tgt := 170) hx hb dL_isVersion_97 (by decide) (fun c_24 => ?_) (fun c_24 => ?_)
                · have c_24n := Int32.not_le.mpr c_24
                  refine lv_iinc (v := ((nI j) - 1)) (lv' := [(9, .int ((nI j) - 1)), (0, .ref (q 0)), (1, .int (nI u)), (2, .int (nI f)), (3, .int (nI w)), (4, .int (nI v)), (5, .int ((vsm N Z (Z 6 u) (nI f) (N 0)).1)), (6, .int 1), (7, .int z), (8, .int y)]) hx hb dL_isVersion_170 hl (k := 9) rfl (dec1 _) (by decide) rfl (fun ls hl => ?_)
                  refine lv_goto (tgt := 84) hx hb dL_isVersion_173 (by decide) ?_
                  exact ih84 j y z b9 M9 Y9 sc9 (by omega) (by omega) (by omega) (by exact hpm9) (by exact bsP_no hbs (al_f1 c_24)) (by exact hm1) cs ns (by omega) (by omega) _ _ hP hD hS _ (lv_sub hl [1, 2, 3, 4, 5, 6, 7, 8, 9, 0] rfl)
                · have c_24n := Int32.not_lt.mp c_24
                  refine lv_iload_n hx hb dL_isVersion_100 rfl (lv_at hl 2 rfl) ?_
                  refine lv_aload_n hx hb dL_isVersion_101 rfl (lv_at hl 0 rfl) ?_
                  refine lv_iload hx hb dL_isVersion_102 (lv_at hl 9 rfl) ?_
                  refine lv_iconst (v := 1) hx hb dL_isVersion_104 (by decide) ?_
                  refine rn_V S hkx hth (nX5_version l hl0 (sa := sa) (h9 := (fun q h => hA q (Nat.le_trans hS.1 h))) (hP := hP) (hwf := hwf) (hv := (by omega)) (hw := (by omega)) (v := j) (w := 1)) gL_isVersion_X5_version rfl idX5_version ⟨Nat.le_of_ble_eq_true rfl, Nat.le_of_ble_eq_true rfl⟩ hP 0 rfl rfl rfl rfl hl.1 rfl (Nat.le_of_ble_eq_true rfl) dL_isVersion_105 ⟨(show cs + 2 ≤ 24 by omega), (show ns + 6 * 2 ≤ 6 * 24 by omega)⟩ (fun v9 hv9 => ?_)
                  subst hv9
                  refine W.eq (g2 := F0 m 108 ls [.int (Z 2 j), .int (nI f)]) rfl ?_
                  refine lv_icmp_ge (tgt := 170) hx hb dL_isVersion_108 (by decide) (fun c_25 => ?_) (fun c_25 => ?_)
                  · have c_25n := Int32.not_lt.mpr c_25
                    refine lv_iinc (v := ((nI j) - 1)) (lv' := [(9, .int ((nI j) - 1)), (0, .ref (q 0)), (1, .int (nI u)), (2, .int (nI f)), (3, .int (nI w)), (4, .int (nI v)), (5, .int ((vsm N Z (Z 6 u) (nI f) (N 0)).1)), (6, .int 1), (7, .int z), (8, .int y)]) hx hb dL_isVersion_170 hl (k := 9) rfl (dec1 _) (by decide) rfl (fun ls hl => ?_)
                    refine lv_goto (tgt := 84) hx hb dL_isVersion_173 (by decide) ?_
                    exact ih84 j y z b9 M9 Y9 sc9 (by omega) (by omega) (by omega) (by exact hpm9) (by exact bsP_no hbs (al_f2 c_25)) (by exact hm1) cs ns (by omega) (by omega) _ _ hP hD hS _ (lv_sub hl [1, 2, 3, 4, 5, 6, 7, 8, 9, 0] rfl)
                  · have c_25n := Int32.not_le.mp c_25
                    have ha : aliv Z j (nI f) = true := al_t c_24 c_25
                    refine lv_aload_n hx hb dL_isVersion_111 rfl (lv_at hl 0 rfl) ?_
                    refine lv_iload_n hx hb dL_isVersion_112 rfl (lv_at hl 1 rfl) ?_
                    refine lv_iload hx hb dL_isVersion_113 (lv_at hl 9 rfl) ?_
                    refine lv_iload_n hx hb dL_isVersion_115 rfl (lv_at hl 2 rfl) ?_
                    refine wn_V S hkx hth (nX5_pledge l hl0 (sa := sa) (A9 := A) (h9 := (fun q h => hA q (Nat.le_trans hS.1 h))) (hP := hP) (hD := hD.weaken (fun _ _ _ _ => trivial)) (hwf := hwf) (hsc := (by omega)) (hu := (by omega)) (hv := (by omega)) (hd := (by omega)) (u := u) (v := j) (d := f)) gL_isVersion_X5_pledge rfl idX5_pledge ⟨Nat.le_of_ble_eq_true rfl, Nat.le_of_ble_eq_true rfl⟩ hP 0 rfl rfl rfl rfl hl.1 rfl (Nat.le_of_ble_eq_true rfl) dL_isVersion_116 ⟨(show cs + 1 ≤ 24 by omega), (show ns + 6 * 1 ≤ 6 * 24 by omega)⟩ hS (fr_in hD (fun q h => hA q (Nat.le_trans hS.1 h))) (fun v9 H locs hp9 hz1 hk1 hS => ?_)
                    obtain ⟨rfl, hP⟩ := hp9
                    have hP : va_P G vwCl (wMain T q a N (uPl Z u (nI j) (nI f)) (svB sc9 b9) (psh sc9 M9 N) (psh sc9 Y9 Z) (svC sc9) tx L cu er le nb nc) H := hP
                    have hD : va_D A (wMain T q a N (uPl Z u (nI j) (nI f)) (svB sc9 b9) (psh sc9 M9 N) (psh sc9 Y9 Z) (svC sc9) tx L cu er le nb nc) := D_perm hD sv_addr
                    have hth := hth0.kept hS.2.1
                    refine W.eq (g2 := F0 m 119 ls [.int (Z 8 u)]) rfl ?_
                    have hwg3 : wf N (uPl Z u (nI j) (nI f)) := wf_pl hwf (Or.inr ⟨_, (show j < N 0 by omega), rfl, by rw [nI_toInt (by omega)]; omega⟩)
                    have hsv3 := svC_bd (sc := sc9) (by omega)
                    refine lv_istore (lv' := [(10, .int (Z 8 u)), (0, .ref (q 0)), (1, .int (nI u)), (2, .int (nI f)), (3, .int (nI w)), (4, .int (nI v)), (5, .int ((vsm N Z (Z 6 u) (nI f) (N 0)).1)), (6, .int 1), (7, .int z), (8, .int y), (9, .int (nI j))]) hx hb dL_isVersion_119 hl (by decide) rfl (fun ls hl => ?_)
                    refine lv_aload_n hx hb dL_isVersion_121 rfl (lv_at hl 1 rfl) ?_
                    refine lv_iload_n hx hb dL_isVersion_122 rfl (lv_at hl 2 rfl) ?_
                    refine lv_iload_n hx hb dL_isVersion_123 rfl (lv_at hl 3 rfl) ?_
                    refine rn_V S hkx hth (nX5_missing l hl0 (sa := sa) (h9 := (fun q h => hA q (Nat.le_trans hS.1 h))) (hP := hP) (hwf := hwg3) (hu := (by omega)) (hd := (by omega)) (u := u) (d := f)) gL_isVersion_X5_missing rfl idX5_missing ⟨Nat.le_of_ble_eq_true rfl, Nat.le_of_ble_eq_true rfl⟩ hP 0 rfl rfl rfl rfl hl.1 rfl (Nat.le_of_ble_eq_true rfl) dL_isVersion_124 ⟨(show cs + 1 + 2 ≤ 24 by omega), (show ns + 6 * 1 + 6 * 2 ≤ 6 * 24 by omega)⟩ (fun v9 hv9 => ?_)
                    subst hv9
                    refine W.eq (g2 := F0 m 127 ls [.int (unU N (uPl Z u (nI j) (nI f)) u (nI f))]) rfl ?_
                    refine W.eq (g2 := F0 m 127 ls [.int (uns N Z (Z 6 u) j (nI f))]) (congrArg (fun z9 => F0 m 127 ls (.int z9 :: [])) ((unU_pl hwf hu (show j < N 0 by omega) (show f ≤ 999 by omega) (show f ≤ 999 by omega)).trans (by rw [if_pos (Nat.le_refl f)]))) ?_
                    refine ro_S S hkx (mL_bits l (x := (uns N Z (Z 6 u) j (nI f)))) gL_isVersion_L_bits rfl idL_bits.2 ⟨Nat.le_of_ble_eq_true rfl, Nat.le_of_ble_eq_true rfl⟩ rfl hl.1 rfl (Nat.le_of_ble_eq_true rfl) dL_isVersion_127 ⟨(show cs + 1 ≤ 24 by omega), (show ns + 6 * 1 ≤ 6 * 24 by omega)⟩ (fun r9 hr9 => ?_)
                    subst hr9
                    refine W.eq (g2 := F0 m 130 ls [.int (bcM (uns N Z (Z 6 u) j (nI f)) 10)]) rfl ?_
                    refine W.eq (g2 := F0 m 130 ls [.int (bc (uns N Z (Z 6 u) j (nI f)))]) (congrArg (fun z9 => F0 m 130 ls (.int z9 :: [])) (bcM_uns hwf hu j (nI f))) ?_
                    refine lv_istore (lv' := [(11, .int (bc (uns N Z (Z 6 u) j (nI f)))), (10, .int (Z 8 u)), (0, .ref (q 0)), (1, .int (nI u)), (2, .int (nI f)), (3, .int (nI w)), (4, .int (nI v)), (5, .int ((vsm N Z (Z 6 u) (nI f) (N 0)).1)), (6, .int 1), (7, .int z), (8, .int y), (9, .int (nI j))]) hx hb dL_isVersion_130 hl (by decide) rfl (fun ls hl => ?_)
                    refine lv_aload_n hx hb dL_isVersion_132 rfl (lv_at hl 2 rfl) ?_
                    refine wn_V S hkx hth (nX5_undo l hl0 (sa := sa) (A9 := A) (h9 := (fun q h => hA q (Nat.le_trans hS.1 h))) (hP := hP) (hD := hD.weaken (fun _ _ _ _ => trivial)) (hwf := hwg3) (hsc := (by omega)) (h0 := (by omega)) ) gL_isVersion_X5_undo rfl idX5_undo ⟨Nat.le_of_ble_eq_true rfl, Nat.le_of_ble_eq_true rfl⟩ hP 0 rfl rfl rfl rfl hl.1 rfl (Nat.le_of_ble_eq_true rfl) dL_isVersion_133 ⟨(show cs + 1 + 1 ≤ 24 by omega), (show ns + 6 * 1 + 6 * 1 ≤ 6 * 24 by omega)⟩ hS (fr_in hD (fun q h => hA q (Nat.le_trans hS.1 h))) (fun v9 H locs hp9 hz1 hk1 hS => ?_)
                    obtain ⟨rfl, hP⟩ := hp9
                    have hP : va_P G vwCl (wMain T q a ((psh sc9 M9 N) ((svC sc9) - 1)) ((psh sc9 Y9 Z) ((svC sc9) - 1)) (svB sc9 b9) (psh sc9 M9 N) (psh sc9 Y9 Z) ((svC sc9) - 1) tx L cu er le nb nc) H := hP
                    have hD : va_D A (wMain T q a ((psh sc9 M9 N) ((svC sc9) - 1)) ((psh sc9 Y9 Z) ((svC sc9) - 1)) (svB sc9 b9) (psh sc9 M9 N) (psh sc9 Y9 Z) ((svC sc9) - 1) tx L cu er le nb nc) := D_perm hD (List.Perm.refl _)
                    have hth := hth0.kept hS.2.1
                    refine W.eq (g2 := F0 m 136 ls [.int (nI ((svC sc9) - 1))]) rfl ?_
                    obtain ⟨b4, M4, Y4, sc4, hsc4, hpm4, hP⟩ := un_st (show sc9 ≤ 4 by omega) hpm9 hP
                    have hD : va_D A (wMain T q a N Z b4 M4 Y4 sc4 tx L cu er le nb nc) := D_perm hD0 hpm4
                    refine lv_istore (lv' := [(10, .int (nI ((svC sc9) - 1))), (11, .int (bc (uns N Z (Z 6 u) j (nI f)))), (0, .ref (q 0)), (1, .int (nI u)), (2, .int (nI f)), (3, .int (nI w)), (4, .int (nI v)), (5, .int ((vsm N Z (Z 6 u) (nI f) (N 0)).1)), (6, .int 1), (7, .int z), (8, .int y), (9, .int (nI j))]) hx hb dL_isVersion_136 hl (by decide) rfl (fun ls hl => ?_)
                    refine lv_iload hx hb dL_isVersion_138 (lv_at hl 1 rfl) ?_
                    refine lv_iload hx hb dL_isVersion_140 (lv_at hl 9 rfl) ?_
                    refine lv_icmp_gt (tgt := 150) hx hb dL_isVersion_142 (by decide) (fun c_26 => ?_) (fun c_26 => ?_)
                    · have c_26n := Int32.not_le.mpr c_26
                      refine lv_iload hx hb dL_isVersion_150 (lv_at hl 10 rfl) ?_
                      refine lv_istore (lv' := [(8, .int y), (10, .int (nI ((svC sc9) - 1))), (11, .int (bc (uns N Z (Z 6 u) j (nI f)))), (0, .ref (q 0)), (1, .int (nI u)), (2, .int (nI f)), (3, .int (nI w)), (4, .int (nI v)), (5, .int ((vsm N Z (Z 6 u) (nI f) (N 0)).1)), (6, .int 1), (7, .int z), (9, .int (nI j))]) hx hb dL_isVersion_152 hl (by decide) rfl (fun ls hl => ?_)
                      refine lv_iload hx hb dL_isVersion_154 (lv_at hl 2 rfl) ?_
                      refine lv_iload hx hb dL_isVersion_156 (lv_at hl 10 rfl) ?_
                      refine lv_icmp_gt (tgt := 166) hx hb dL_isVersion_158 (by decide) (fun c_27 => ?_) (fun c_27 => ?_)
                      · have c_27n := Int32.not_le.mpr c_27
                        refine lv_iload hx hb dL_isVersion_166 (lv_at hl 10 rfl) ?_
                        refine lv_istore (lv' := [(7, .int z), (8, .int y), (10, .int (nI ((svC sc9) - 1))), (11, .int (bc (uns N Z (Z 6 u) j (nI f)))), (0, .ref (q 0)), (1, .int (nI u)), (2, .int (nI f)), (3, .int (nI w)), (4, .int (nI v)), (5, .int ((vsm N Z (Z 6 u) (nI f) (N 0)).1)), (6, .int 1), (9, .int (nI j))]) hx hb dL_isVersion_168 hl (by decide) rfl (fun ls hl => ?_)
                        refine lv_iinc (v := ((nI j) - 1)) (lv' := [(9, .int ((nI j) - 1)), (7, .int z), (8, .int y), (10, .int (nI ((svC sc9) - 1))), (11, .int (bc (uns N Z (Z 6 u) j (nI f)))), (0, .ref (q 0)), (1, .int (nI u)), (2, .int (nI f)), (3, .int (nI w)), (4, .int (nI v)), (5, .int ((vsm N Z (Z 6 u) (nI f) (N 0)).1)), (6, .int 1)]) hx hb dL_isVersion_170 hl (k := 11) rfl (dec1 _) (by decide) rfl (fun ls hl => ?_)
                        refine lv_goto (tgt := 84) hx hb dL_isVersion_173 (by decide) ?_
                        exact ih84 j y z b4 M4 Y4 sc4 (by omega) (by omega) (by omega) (by exact hpm4) (by exact bsP_ke hbs (fun q9 => absurd (hm1 q9 ▸ bc_100 hwf hu j (nI f)) c_26n) c_26n) (by exact hm1) (cs + 1 + 1) (ns + 6 * 1 + 6 * 1) (by omega) (by omega) _ _ hP hD hS _ (lv_sub hl [5, 6, 7, 8, 9, 10, 11, 1, 2, 0] rfl)
                      · exact absurd c_26 c_27
                    · have c_26n := Int32.not_lt.mp c_26
                      refine lv_iload hx hb dL_isVersion_145 (lv_at hl 11 rfl) ?_
                      refine lv_goto (tgt := 152) hx hb dL_isVersion_147 (by decide) ?_
                      refine lv_istore (lv' := [(8, .int (nI j)), (10, .int (nI ((svC sc9) - 1))), (11, .int (bc (uns N Z (Z 6 u) j (nI f)))), (0, .ref (q 0)), (1, .int (nI u)), (2, .int (nI f)), (3, .int (nI w)), (4, .int (nI v)), (5, .int ((vsm N Z (Z 6 u) (nI f) (N 0)).1)), (6, .int 1), (7, .int z), (9, .int (nI j))]) hx hb dL_isVersion_152 hl (by decide) rfl (fun ls hl => ?_)
                      refine lv_iload hx hb dL_isVersion_154 (lv_at hl 2 rfl) ?_
                      refine lv_iload hx hb dL_isVersion_156 (lv_at hl 10 rfl) ?_
                      refine lv_icmp_gt (tgt := 166) hx hb dL_isVersion_158 (by decide) (fun c_28 => ?_) (fun c_28 => ?_)
                      · exact absurd c_28 c_26
                      · have c_28n := Int32.not_lt.mp c_28
                        refine lv_iload hx hb dL_isVersion_161 (lv_at hl 2 rfl) ?_
                        refine lv_goto (tgt := 168) hx hb dL_isVersion_163 (by decide) ?_
                        refine lv_istore (lv' := [(7, .int (bc (uns N Z (Z 6 u) j (nI f)))), (8, .int (nI j)), (10, .int (nI ((svC sc9) - 1))), (11, .int (bc (uns N Z (Z 6 u) j (nI f)))), (0, .ref (q 0)), (1, .int (nI u)), (2, .int (nI f)), (3, .int (nI w)), (4, .int (nI v)), (5, .int ((vsm N Z (Z 6 u) (nI f) (N 0)).1)), (6, .int 1), (9, .int (nI j))]) hx hb dL_isVersion_168 hl (by decide) rfl (fun ls hl => ?_)
                        refine lv_iinc (v := ((nI j) - 1)) (lv' := [(9, .int ((nI j) - 1)), (7, .int (bc (uns N Z (Z 6 u) j (nI f)))), (8, .int (nI j)), (10, .int (nI ((svC sc9) - 1))), (11, .int (bc (uns N Z (Z 6 u) j (nI f)))), (0, .ref (q 0)), (1, .int (nI u)), (2, .int (nI f)), (3, .int (nI w)), (4, .int (nI v)), (5, .int ((vsm N Z (Z 6 u) (nI f) (N 0)).1)), (6, .int 1)]) hx hb dL_isVersion_170 hl (k := 11) rfl (dec1 _) (by decide) rfl (fun ls hl => ?_)
                        refine lv_goto (tgt := 84) hx hb dL_isVersion_173 (by decide) ?_
                        exact ih84 j (nI j) (bc (uns N Z (Z 6 u) j (nI f))) b4 M4 Y4 sc4 (by omega) (by omega) (by omega) (by exact hpm4) (by exact bsP_ta (by omega) hbs ha c_26n) (by exact fun q9 => absurd q9 (nIm1 (by omega))) (cs + 1 + 1) (ns + 6 * 1 + 6 * 1) (by omega) (by omega) _ _ hP hD hS _ (lv_sub hl [5, 6, 7, 8, 9, 10, 11, 1, 2, 0] rfl)
          exact L84 _ (N 0) (-1) 100 b2 M2 Y2 sc2 (Nat.lt_succ_self _) (by omega) (by omega) (by exact hpm2) (by exact Or.inl ⟨rfl, fun v a b => by omega⟩) (by exact fun _ => rfl) (0 + 1 + 1) (0 + 6 * 1 + 6 * 1) (by omega) (by omega) _ _ hP hD hS _ (lv_sub hl [6, 7, 8, 9, 5, 4, 3, 2, 1, 0] rfl)
