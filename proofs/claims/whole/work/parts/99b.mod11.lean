theorem idX6_carryOut : yX6_carryOut.cls = RX6 ∧ yX6_carryOut.cls ≠ "java/lang/invoke/MethodHandle" ∧ yX6_carryOut.cls ≠ "java/lang/invoke/VarHandle" ∧ (parseMethodDescriptor yX6_carryOut.desc).map (fun d => d.parameters.length) = some 0 := by decide +kernel

set_option maxHeartbeats 4000000 in
set_option maxRecDepth 100000 in
theorem mX6_carryOut (l : Launch) {G : va_G} {T : Nat → ClassId} {H0 : Heap} {r : Nat → Nat} {N : Nat → Nat} {Z : Nat → Nat → Int32} {mm : Nat → Int32} {pp : Nat → Int32} {xx : Nat → Int32} {th : Int32} {sv : Nat} {n1 : Nat} {ac : Int32} {ea : Int32} {le : Int32} {v1 : Int32} {v2 : Int32} {v3 : Int32} {v4 : Int32} {v5 : Int32} (hP : va_P G vwCl (wMod T r mm pp xx th sv n1 ac ea le v1 v2 v3 v4 v5) H0) (hD : va_D (fun _ => True) (wMod T r mm pp xx th sv n1 ac ea le v1 v2 v3 v4 v5)) (hwf : wf N Z) (hr : rel N Z mm) (hs4 : sv ≤ 4) (hn1 : n1 ≤ 100) (htx : ∀ i, i < n1 → ¬ xx i = -1) : mu l yX6_carryOut wsX6_carryOut 4 89 [.ref (r 0)] G T H0 (wMod T r mm pp xx th sv n1 ac ea le v1 v2 v3 v4 v5) (coP G T r N Z mm pp xx sv n1) := by
  refine mu_ofi (cc := cX6_carryOut) (maxL := 3) (ret := .int) (own := RX6) (by decide +kernel) rfl rfl (Nat.le_of_ble_eq_true rfl) hD ?_
  intro p e s m below meth c Q ls A S hkx hl hD hS hA hret
  obtain ⟨hx, hb, hml, hown, hts⟩ := id S
  have hl : lv_has ls 3 [(0, .ref (r 0))] := hl
  have k19 := hts (.fieldLink RX6 19 "SunsetDatesModel" "thrown" "I") (by decide +kernel)
  have iX6 : ∀ w ∈ wsX60, w ∈ wsX6_carryOut := by decide +kernel
  have k151 := hts (.fieldLink RX6 151 "SunsetDatesModel" "at0" "I") (by decide +kernel)
  have k154 := hts (.fieldLink RX6 154 "SunsetDatesModel" "errorAt" "I") (by decide +kernel)
  have k148 := hts (.fieldLink RX6 148 "SunsetDatesModel" "texted" "I") (by decide +kernel)
  have hb2 := hwf.1
  obtain ⟨hr0, hr1, hr2, hr3, hrv, hrf, hru, hrs⟩ := id hr
  refine lv_aload_n hx hb dX6_carryOut_0 rfl (lv_at hl 0 rfl) ?_
  refine lv_iconst (v := 0) hx hb dX6_carryOut_1 (by decide) ?_
  refine va_put (D := G) (ci := 6) (v := .int 0) (ty := .int) (C := RX6) (T := TX6) (N := 14) hx hb hts iX6 tyX6 tyX6_ok nmX6 hown hkx.1 hP hD hS 0 rfl rfl 1 (by decide) k19 (fun _ h9 => h9) rfl (by decide +kernel) rfl rfl (Nat.le_of_ble_eq_true rfl) dX6_carryOut_2 (fun H locs hP hD hS => ?_)
  have hP : va_P G vwCl (wMod T r mm pp xx 0 sv n1 ac ea le v1 v2 v3 v4 v5) H := hP
  have hD : va_D A (wMod T r mm pp xx 0 sv n1 ac ea le v1 v2 v3 v4 v5) := hD
  refine lv_aload_n hx hb dX6_carryOut_5 rfl (lv_at hl 0 rfl) ?_
  refine lv_iconst (v := 0) hx hb dX6_carryOut_6 (by decide) ?_
  refine va_put (D := G) (ci := 6) (v := .int 0) (ty := .int) (C := RX6) (T := TX6) (N := 14) hx hb hts iX6 tyX6 tyX6_ok nmX6 hown hkx.1 hP hD hS 0 rfl rfl 6 (by decide) k151 (fun _ h9 => h9) rfl (by decide +kernel) rfl rfl (Nat.le_of_ble_eq_true rfl) dX6_carryOut_7 (fun H locs hP hD hS => ?_)
  have hP : va_P G vwCl (wMod T r mm pp xx 0 sv n1 0 ea le v1 v2 v3 v4 v5) H := hP
  have hD : va_D A (wMod T r mm pp xx 0 sv n1 0 ea le v1 v2 v3 v4 v5) := hD
  refine lv_aload_n hx hb dX6_carryOut_10 rfl (lv_at hl 0 rfl) ?_
  refine lv_iconst (v := (-1)) hx hb dX6_carryOut_11 (by decide) ?_
  refine va_put (D := G) (ci := 6) (v := .int (-1)) (ty := .int) (C := RX6) (T := TX6) (N := 14) hx hb hts iX6 tyX6 tyX6_ok nmX6 hown hkx.1 hP hD hS 0 rfl rfl 7 (by decide) k154 (fun _ h9 => h9) rfl (by decide +kernel) rfl rfl (Nat.le_of_ble_eq_true rfl) dX6_carryOut_12 (fun H locs hP hD hS => ?_)
  have hP : va_P G vwCl (wMod T r mm pp xx 0 sv n1 0 (-1) le v1 v2 v3 v4 v5) H := hP
  have hD : va_D A (wMod T r mm pp xx 0 sv n1 0 (-1) le v1 v2 v3 v4 v5) := hD
  have hP : va_P G vwCl (wMod T r mm pp xx 0 sv n1 (nI 0) (-1) le v1 v2 v3 v4 v5) H := hP
  have hD : va_D A (wMod T r mm pp xx 0 sv n1 (nI 0) (-1) le v1 v2 v3 v4 v5) := hD
  have L15 : ∀ (fuel : Nat) (pz f : Nat) (u0 u1 u2 u3 u4 u5 : Int32), f < fuel → pz ≤ n1 → 101 ≤ f + pz → chk xx n1 101 0 = chk xx n1 f pz → ∀ (H : Heap) (locs : List Loc), va_P G vwCl (wMod T r mm pp xx 0 sv n1 (nI pz) (-1) u0 u1 u2 u3 u4 u5) H → va_D A (wMod T r mm pp xx 0 sv n1 (nI pz) (-1) u0 u1 u2 u3 u4 u5) → va_S A H0 H locs → ∀ ls : Array Slot, lv_has ls 3 [(0, .ref (r 0))] → W p l e (rmo 4 89) s m ([.ref (r 0)] : List Value).toArray below meth c H locs 0 0 Q (F0 m 15 ls []) := by
    intro fuel
    induction fuel with
    | zero => intro pz f u0 u1 u2 u3 u4 u5 hm; exact absurd hm (Nat.not_lt_zero _)
    | succ fuel ih15 =>
      intro pz f u0 u1 u2 u3 u4 u5 hm15 hq hf hck H locs hP hD hS ls hl
      obtain ⟨f9, rfl⟩ : ∃ f9, f = f9 + 1 := ⟨f - 1, by omega⟩
      refine lv_aload_n hx hb dX6_carryOut_15 rfl (lv_at hl 0 rfl) ?_
      refine va_get (D := G) (ci := 6) (C := RX6) (T := TX6) (N := 14) hx hb hts iX6 hown hkx.1 hP 0 rfl rfl 7 (by decide) k154 (fun _ h9 => h9) rfl dX6_carryOut_16 ?_
      refine lv_iconst (v := (-1)) hx hb dX6_carryOut_19 (by decide) ?_
      refine lv_icmp_ne (tgt := 41) hx hb dX6_carryOut_20 (by decide) (fun c_1 => ?_) (fun c_1 => ?_)
      · skip
        exact absurd c_1 (by decide)
      · skip
        refine lv_aload_n hx hb dX6_carryOut_23 rfl (lv_at hl 0 rfl) ?_
        refine va_get (D := G) (ci := 6) (C := RX6) (T := TX6) (N := 14) hx hb hts iX6 hown hkx.1 hP 0 rfl rfl 6 (by decide) k151 (fun _ h9 => h9) rfl dX6_carryOut_24 ?_
        refine lv_aload_n hx hb dX6_carryOut_27 rfl (lv_at hl 0 rfl) ?_
        refine va_get (D := G) (ci := 6) (C := RX6) (T := TX6) (N := 14) hx hb hts iX6 hown hkx.1 hP 0 rfl rfl 5 (by decide) k148 (fun _ h9 => h9) rfl dX6_carryOut_28 ?_
        refine lv_icmp_ge (tgt := 41) hx hb dX6_carryOut_31 (by decide) (fun c_2 => ?_) (fun c_2 => ?_)
        · replace c_2 := cn_le (a := n1) (b := pz) (by omega) (by omega) c_2
          refine lv_aload_n hx hb dX6_carryOut_41 rfl (lv_at hl 0 rfl) ?_
          refine va_get (D := G) (ci := 6) (C := RX6) (T := TX6) (N := 14) hx hb hts iX6 hown hkx.1 hP 0 rfl rfl 7 (by decide) k154 (fun _ h9 => h9) rfl dX6_carryOut_42 ?_
          refine lv_iconst (v := (-1)) hx hb dX6_carryOut_45 (by decide) ?_
          refine lv_icmp_eq (tgt := 57) hx hb dX6_carryOut_46 (by decide) (fun c_3 => ?_) (fun c_3 => ?_)
          · skip
            have hcn : chk xx n1 101 0 = none := by rw [hck]; exact chk_no (by omega) _
            refine lv_aload_n hx hb dX6_carryOut_57 rfl (lv_at hl 0 rfl) ?_
            refine mu_V S hkx (mX6_save l (hP := hP) (hD := hD.weaken (fun _ _ _ _ => trivial)) (N := N) (Z := Z) (mm := mm) (pp := pp) (xx := xx) (th := 0) (sv := sv) (n1 := n1) (ac := (nI pz)) (ea := (-1)) (le := u0) (v1 := u1) (v2 := u2) (v3 := u3) (v4 := u4) (v5 := u5) (hs4 := (by omega))) gX6_carryOut_X6_save rfl idX6_save ⟨Nat.le_of_ble_eq_true rfl, Nat.le_of_ble_eq_true rfl⟩ hP 0 rfl rfl rfl rfl hl.1 rfl (Nat.le_of_ble_eq_true rfl) dX6_carryOut_58 ⟨Nat.le_refl _, Nat.le_refl _⟩ hS (fr_in hD (fun q h => hA q (Nat.le_trans hS.1 h))) (fun v H locs hp9 hz1 hk1 hS => ?_)
            obtain ⟨rfl, hP⟩ := hp9
            have hP : va_P G vwCl (wMod T r mm (svP sv pp mm) xx 0 (svC sv) n1 (nI pz) (-1) u0 u1 u2 u3 u4 u5) H := hP
            have hD : va_D A (wMod T r mm (svP sv pp mm) xx 0 (svC sv) n1 (nI pz) (-1) u0 u1 u2 u3 u4 u5) := fr_all hD rfl
            refine W.eq (g2 := F0 m 61 ls []) rfl ?_
            refine lv_aload_n hx hb dX6_carryOut_61 rfl (lv_at hl 0 rfl) ?_
            refine lv_iconst (v := 0) hx hb dX6_carryOut_62 (by decide) ?_
            refine va_put (D := G) (ci := 6) (v := .int 0) (ty := .int) (C := RX6) (T := TX6) (N := 14) hx hb hts iX6 tyX6 tyX6_ok nmX6 hown hkx.1 hP hD hS 0 rfl rfl 6 (by decide) k151 (fun _ h9 => h9) rfl (by decide +kernel) rfl rfl (Nat.le_of_ble_eq_true rfl) dX6_carryOut_63 (fun H locs hP hD hS => ?_)
            have hP : va_P G vwCl (wMod T r mm (svP sv pp mm) xx 0 (svC sv) n1 0 (-1) u0 u1 u2 u3 u4 u5) H := hP
            have hD : va_D A (wMod T r mm (svP sv pp mm) xx 0 (svC sv) n1 0 (-1) u0 u1 u2 u3 u4 u5) := hD
            refine lv_iconst (v := 0) hx hb dX6_carryOut_66 (by decide) ?_
            refine lv_istore_n (lv' := [(1, .int 0), (0, .ref (r 0))]) hx hb dX6_carryOut_67 rfl hl (by decide) rfl (fun ls hl => ?_)
            have hP : va_P G vwCl (wMod T r mm (svP sv pp mm) xx 0 (svC sv) n1 (nI 0) (-1) u0 u1 u2 u3 u4 u5) H := hP
            have hD : va_D A (wMod T r mm (svP sv pp mm) xx 0 (svC sv) n1 (nI 0) (-1) u0 u1 u2 u3 u4 u5) := hD
            have L68 : ∀ (fuel : Nat) (y f2 n : Nat) (N9 : Nat → Nat) (Z9 : Nat → Nat → Int32) (m9 : Nat → Int32) (u0 u1 u2 u3 u4 u5 : Int32), f2 < fuel → y ≤ n1 → 101 ≤ f2 + y → chk xx n1 f2 y = none → wf N9 Z9 → rel N9 Z9 m9 → cry xx n1 101 0 N Z 0 = cry xx n1 f2 y N9 Z9 n → n ≤ y → ∀ (H : Heap) (locs : List Loc), va_P G vwCl (wMod T r m9 (svP sv pp mm) xx 0 (svC sv) n1 (nI y) (-1) u0 u1 u2 u3 u4 u5) H → va_D A (wMod T r m9 (svP sv pp mm) xx 0 (svC sv) n1 (nI y) (-1) u0 u1 u2 u3 u4 u5) → va_S A H0 H locs → ∀ ls : Array Slot, lv_has ls 3 [(0, .ref (r 0)), (1, .int (nI n))] → W p l e (rmo 4 89) s m ([.ref (r 0)] : List Value).toArray below meth c H locs 0 0 Q (F0 m 68 ls []) := by
              intro fuel
              induction fuel with
              | zero => intro y f2 n N9 Z9 m9 u0 u1 u2 u3 u4 u5 hm; exact absurd hm (Nat.not_lt_zero _)
              | succ fuel ih68 =>
                intro y f2 n N9 Z9 m9 u0 u1 u2 u3 u4 u5 hm68 hy hf2 hck2 hwf hr hcy hnn H locs hP hD hS ls hl
                obtain ⟨f3, rfl⟩ : ∃ f3, f2 = f3 + 1 := ⟨f2 - 1, by omega⟩
                have hb2 := hwf.1
                refine lv_aload_n hx hb dX6_carryOut_68 rfl (lv_at hl 0 rfl) ?_
                refine va_get (D := G) (ci := 6) (C := RX6) (T := TX6) (N := 14) hx hb hts iX6 hown hkx.1 hP 0 rfl rfl 6 (by decide) k151 (fun _ h9 => h9) rfl dX6_carryOut_69 ?_
                refine lv_aload_n hx hb dX6_carryOut_72 rfl (lv_at hl 0 rfl) ?_
                refine va_get (D := G) (ci := 6) (C := RX6) (T := TX6) (N := 14) hx hb hts iX6 hown hkx.1 hP 0 rfl rfl 5 (by decide) k148 (fun _ h9 => h9) rfl dX6_carryOut_73 ?_
                refine lv_icmp_ge (tgt := 113) hx hb dX6_carryOut_76 (by decide) (fun c_4 => ?_) (fun c_4 => ?_)
                · replace c_4 := cn_le (a := n1) (b := y) (by omega) (by omega) c_4
                  refine lv_iload_n hx hb dX6_carryOut_113 rfl (lv_at hl 1 rfl) ?_
                  have hce : cry xx n1 101 0 N Z 0 = (n, N9, Z9) := hcy.trans (cry_no (by omega) _)
                  exact hret _ _ _ _ _ (show coP G T r N Z mm pp xx sv n1 (some (Value.int (nI n))) H from Or.inr ⟨hcn, by rw [hce], m9, _, _, _, _, _, _, _, _, by rw [hce]; exact hwf, by rw [hce]; exact hr, hP⟩) rfl hS dX6_carryOut_114
                · replace c_4 := cn_nle (a := n1) (b := y) (by omega) (by omega) c_4
                  have hP : va_P G vwCl (wMod T r m9 (svP sv pp mm) xx 0 (svC sv) n1 (nI (acO (pok y []))) (eaO (pok y [])) u0 u1 u2 u3 u4 u5) H := hP
                  have hD : va_D A (wMod T r m9 (svP sv pp mm) xx 0 (svC sv) n1 (nI (acO (pok y []))) (eaO (pok y [])) u0 u1 u2 u3 u4 u5) := hD
                  refine lv_aload_n hx hb dX6_carryOut_79 rfl (lv_at hl 0 rfl) ?_
                  refine mu_V S hkx (mX6_readOrder l (pz := y) (hP := hP) (hD := hD.weaken (fun _ _ _ _ => trivial)) (hn1 := hn1) (hp := (by omega)) (htx := htx)) gX6_carryOut_X6_readOrder rfl idX6_readOrder ⟨Nat.le_of_ble_eq_true rfl, Nat.le_of_ble_eq_true rfl⟩ hP 0 rfl rfl rfl rfl hl.1 rfl (Nat.le_of_ble_eq_true rfl) dX6_carryOut_80 ⟨Nat.le_refl _, Nat.le_refl _⟩ hS (fr_in hD (fun q h => hA q (Nat.le_trans hS.1 h))) (fun v H locs hp9 hy1 hk1 hS => ?_)
                  obtain ⟨rfl, x1, x2, x3, x4, x5, hnm, hP⟩ := hp9
                  have hP : va_P G vwCl (wMod T r m9 (svP sv pp mm) xx 0 (svC sv) n1 (nI (acO (prs1 xx n1 y))) (eaO (prs1 xx n1 y)) (xx y) x1 x2 x3 x4 x5) H := hP
                  have hD : va_D A (wMod T r m9 (svP sv pp mm) xx 0 (svC sv) n1 (nI (acO (prs1 xx n1 y))) (eaO (prs1 xx n1 y)) (xx y) x1 x2 x3 x4 x5) := fr_all hD rfl
                  refine W.eq (g2 := F0 m 83 ls []) rfl ?_
                  have hwo := prs1_wf (p := y) htx (by omega)
                  have hno := prs1_npe xx n1 y
                  rcases hp1 : prs1 xx n1 y with ⟨q, ns⟩ | ⟨q, a⟩ | q
                  · rw [hp1] at hP hD hwo
                    have hnm9 := hnm q ns hp1
                    have hfw := prs1_fwd (by omega) hp1
                    have hwq : q ≤ n1 := hwo
                    have hP : va_P G vwCl (wMod T r m9 (svP sv pp mm) xx 0 (svC sv) n1 (nI q) (-1) (xx y) x1 x2 x3 x4 x5) H := hP
                    have hD : va_D A (wMod T r m9 (svP sv pp mm) xx 0 (svC sv) n1 (nI q) (-1) (xx y) x1 x2 x3 x4 x5) := hD
                    refine lv_aload_n hx hb dX6_carryOut_83 rfl (lv_at hl 0 rfl) ?_
                    refine ro_V S hkx (mX6_orderRefused l (hP := hP) (hwf := hwf) (hr := hr)) gX6_carryOut_X6_orderRefused rfl idX6_orderRefused ⟨Nat.le_of_ble_eq_true rfl, Nat.le_of_ble_eq_true rfl⟩ hP 0 rfl rfl rfl rfl hl.1 rfl (Nat.le_of_ble_eq_true rfl) dX6_carryOut_84 ⟨Nat.le_of_ble_eq_true rfl, Nat.le_of_ble_eq_true rfl⟩ (fun r_5 hr_5 => ?_)
                    subst hr_5
                    refine lv_if_eq (tgt := 92) hx hb dX6_carryOut_87 (by decide) (fun c_6 => ?_) (fun c_6 => ?_)
                    · skip
                      have hor9 : orF N9 Z9 (xx y) x1 x2 x3 x4 x5 = 0 := by assumption
                      refine lv_aload_n hx hb dX6_carryOut_92 rfl (lv_at hl 0 rfl) ?_
                      refine mu_V S hkx (mX6_orderNow l (hP := hP) (hD := hD.weaken (fun _ _ _ _ => trivial)) (hwf := hwf) (hr := hr) (hor := hor9)) gX6_carryOut_X6_orderNow rfl idX6_orderNow ⟨Nat.le_of_ble_eq_true rfl, Nat.le_of_ble_eq_true rfl⟩ hP 0 rfl rfl rfl rfl hl.1 rfl (Nat.le_of_ble_eq_true rfl) dX6_carryOut_93 ⟨Nat.le_refl _, Nat.le_refl _⟩ hS (fr_in hD (fun q h => hA q (Nat.le_trans hS.1 h))) (fun v H locs hp9 hy1 hk1 hS => ?_)
                      obtain ⟨z, rfl, hz, hP⟩ := hp9
                      have hP : va_P G vwCl (wMod T r (apM N9 m9 (xx y) x1 x2 x3 x4 x5) (svP sv pp mm) xx 0 (svC sv) n1 (nI q) (-1) (xx y) x1 x2 x3 x4 x5) H := hP
                      have hD : va_D A (wMod T r (apM N9 m9 (xx y) x1 x2 x3 x4 x5) (svP sv pp mm) xx 0 (svC sv) n1 (nI q) (-1) (xx y) x1 x2 x3 x4 x5) := fr_all hD rfl
                      refine W.eq (g2 := F0 m 96 ls [.int z]) rfl ?_
                      refine lv_istore_n (lv' := [(2, .int z), (0, .ref (r 0)), (1, .int (nI n))]) hx hb dX6_carryOut_96 rfl hl (by decide) rfl (fun ls hl => ?_)
                      refine lv_iload_n hx hb dX6_carryOut_97 rfl (lv_at hl 2 rfl) ?_
                      refine lv_iload_n hx hb dX6_carryOut_98 rfl (lv_at hl 0 rfl) ?_
                      refine lv_iconst (v := (-1)) hx hb dX6_carryOut_99 (by decide) ?_
                      refine lv_icmp_ge (tgt := 107) hx hb dX6_carryOut_100 (by decide) (fun c_7 => ?_) (fun c_7 => ?_)
                      · have c_7n := Int32.not_lt.mpr c_7
                        refine lv_iconst (v := 1) hx hb dX6_carryOut_107 (by decide) ?_
                        refine lv_iadd hx hb dX6_carryOut_108 ?_
                        rw [show ((nI n) + 1) = (nI (n + 1)) from nI_add n 1]
                        refine lv_istore_n (lv' := [(1, .int (nI (n + 1))), (2, .int z), (0, .ref (r 0))]) hx hb dX6_carryOut_109 rfl hl (by decide) rfl (fun ls hl => ?_)
                        refine lv_goto (tgt := 68) hx hb dX6_carryOut_110 (by decide) ?_
                        exact ih68 q f3 (n + 1) (apN N9 (xx y)) (apZ N9 Z9 (xx y) x1 x2 x3 x4 x5) (apM N9 m9 (xx y) x1 x2 x3 x4 x5) (xx y) x1 x2 x3 x4 x5 (by omega) (by omega) (by omega) (by exact (chk_ok (by omega) hp1).symm.trans hck2) (by exact (ap_ok hwf hr hor9).1) (by exact (ap_ok hwf hr hor9).2) (by exact hcy.trans (cry_ok (by omega) hp1 hnm9 hor9)) (by omega) _ _ hP hD hS _ (lv_sub hl [2, 0] rfl)
                      · have c_7n := Int32.not_le.mp c_7
                        exact absurd c_7n hz
                    · skip
                      refine lv_iload_n hx hb dX6_carryOut_90 rfl (lv_at hl 1 rfl) ?_
                      have hce : cry xx n1 101 0 N Z 0 = (n, N9, Z9) := hcy.trans (cry_st (f := f3) (by omega) hp1 hnm9 (by assumption))
                      exact hret _ _ _ _ _ (show coP G T r N Z mm pp xx sv n1 (some (Value.int (nI n))) H from Or.inr ⟨hcn, by rw [hce], m9, _, _, _, _, _, _, _, _, by rw [hce]; exact hwf, by rw [hce]; exact hr, hP⟩) rfl hS dX6_carryOut_91
                  · exact nomatch (hck2.symm.trans (chk_er (f := f3) (by omega) hp1))
                  · rw [hp1] at hno; exact hno.elim
            exact L68 _ 0 101 0 N Z mm u0 u1 u2 u3 u4 u5 (Nat.lt_succ_self _) (by omega) (by omega) (by exact hcn) (by exact hwf) (by exact hr) (by rfl) (by omega) _ _ hP hD hS _ (lv_sub hl [1, 0] rfl)
          · skip
            exact absurd c_3 (by decide)
        · replace c_2 := cn_nle (a := n1) (b := pz) (by omega) (by omega) c_2
          have hP : va_P G vwCl (wMod T r mm pp xx 0 sv n1 (nI (acO (pok pz []))) (eaO (pok pz [])) u0 u1 u2 u3 u4 u5) H := hP
          have hD : va_D A (wMod T r mm pp xx 0 sv n1 (nI (acO (pok pz []))) (eaO (pok pz [])) u0 u1 u2 u3 u4 u5) := hD
          refine lv_aload_n hx hb dX6_carryOut_34 rfl (lv_at hl 0 rfl) ?_
          refine mu_V S hkx (mX6_readOrder l (pz := pz) (hP := hP) (hD := hD.weaken (fun _ _ _ _ => trivial)) (hn1 := hn1) (hp := (by omega)) (htx := htx)) gX6_carryOut_X6_readOrder rfl idX6_readOrder ⟨Nat.le_of_ble_eq_true rfl, Nat.le_of_ble_eq_true rfl⟩ hP 0 rfl rfl rfl rfl hl.1 rfl (Nat.le_of_ble_eq_true rfl) dX6_carryOut_35 ⟨Nat.le_refl _, Nat.le_refl _⟩ hS (fr_in hD (fun q h => hA q (Nat.le_trans hS.1 h))) (fun v H locs hp9 hy1 hk1 hS => ?_)
          obtain ⟨rfl, x1, x2, x3, x4, x5, hnm, hP⟩ := hp9
          have hP : va_P G vwCl (wMod T r mm pp xx 0 sv n1 (nI (acO (prs1 xx n1 pz))) (eaO (prs1 xx n1 pz)) (xx pz) x1 x2 x3 x4 x5) H := hP
          have hD : va_D A (wMod T r mm pp xx 0 sv n1 (nI (acO (prs1 xx n1 pz))) (eaO (prs1 xx n1 pz)) (xx pz) x1 x2 x3 x4 x5) := fr_all hD rfl
          refine W.eq (g2 := F0 m 38 ls []) rfl ?_
          have hwo := prs1_wf (p := pz) htx (by omega)
          have hno := prs1_npe xx n1 pz
          rcases hp1 : prs1 xx n1 pz with ⟨q, ns⟩ | ⟨q, a⟩ | q
          · rw [hp1] at hP hD hwo
            have hnm9 := hnm q ns hp1
            have hfw := prs1_fwd (by omega) hp1
            have hwq : q ≤ n1 := hwo
            have hP : va_P G vwCl (wMod T r mm pp xx 0 sv n1 (nI q) (-1) (xx pz) x1 x2 x3 x4 x5) H := hP
            have hD : va_D A (wMod T r mm pp xx 0 sv n1 (nI q) (-1) (xx pz) x1 x2 x3 x4 x5) := hD
            refine lv_goto (tgt := 15) hx hb dX6_carryOut_38 (by decide) ?_
            exact ih15 q f9 (xx pz) x1 x2 x3 x4 x5 (by omega) (by omega) (by omega) (by rw [hck]; exact chk_ok (by omega) hp1) _ _ hP hD hS _ (lv_sub hl [0] rfl)
          · rw [hp1] at hP hD hwo
            have hwq : q ≤ n1 := hwo.1
            have hwa : a ≤ n1 := hwo.2
            have hP : va_P G vwCl (wMod T r mm pp xx 0 sv n1 (nI a) (nI q) (xx pz) x1 x2 x3 x4 x5) H := hP
            have hD : va_D A (wMod T r mm pp xx 0 sv n1 (nI a) (nI q) (xx pz) x1 x2 x3 x4 x5) := hD
            refine lv_goto (tgt := 15) hx hb dX6_carryOut_38 (by decide) ?_
            refine lv_aload_n hx hb dX6_carryOut_15 rfl (lv_at hl 0 rfl) ?_
            refine va_get (D := G) (ci := 6) (C := RX6) (T := TX6) (N := 14) hx hb hts iX6 hown hkx.1 hP 0 rfl rfl 7 (by decide) k154 (fun _ h9 => h9) rfl dX6_carryOut_16 ?_
            refine lv_iconst (v := (-1)) hx hb dX6_carryOut_19 (by decide) ?_
            refine lv_icmp_ne (tgt := 41) hx hb dX6_carryOut_20 (by decide) (fun c_8 => ?_) (fun c_8 => ?_)
            · skip
              refine lv_aload_n hx hb dX6_carryOut_41 rfl (lv_at hl 0 rfl) ?_
              refine va_get (D := G) (ci := 6) (C := RX6) (T := TX6) (N := 14) hx hb hts iX6 hown hkx.1 hP 0 rfl rfl 7 (by decide) k154 (fun _ h9 => h9) rfl dX6_carryOut_42 ?_
              refine lv_iconst (v := (-1)) hx hb dX6_carryOut_45 (by decide) ?_
              refine lv_icmp_eq (tgt := 57) hx hb dX6_carryOut_46 (by decide) (fun c_9 => ?_) (fun c_9 => ?_)
              · skip
                exact absurd c_9 (nIm1 (by omega))
              · skip
                refine lv_bipush (v := (-10)) hx hb dX6_carryOut_49 (by decide) ?_
                refine lv_aload_n hx hb dX6_carryOut_51 rfl (lv_at hl 0 rfl) ?_
                refine va_get (D := G) (ci := 6) (C := RX6) (T := TX6) (N := 14) hx hb hts iX6 hown hkx.1 hP 0 rfl rfl 7 (by decide) k154 (fun _ h9 => h9) rfl dX6_carryOut_52 ?_
                refine lv_isub hx hb dX6_carryOut_55 ?_
                have hce : chk xx n1 101 0 = some q := hck.trans (chk_er (f := f9) (by omega) hp1)
                exact hret _ _ _ _ _ (show coP G T r N Z mm pp xx sv n1 (some (Value.int ((-10) - (nI q)))) H from Or.inl ⟨q, hce, rfl, _, _, _, _, _, _, _, _, hP⟩) rfl hS dX6_carryOut_56
            · skip
              exact absurd c_8 (nIm1 (by omega))
          · rw [hp1] at hno; exact hno.elim
  exact L15 _ 0 101 le v1 v2 v3 v4 v5 (Nat.lt_succ_self _) (by omega) (by omega) (by rfl) _ _ hP hD hS _ (lv_sub hl [0] rfl)
