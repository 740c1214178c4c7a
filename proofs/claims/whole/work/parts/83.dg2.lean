theorem idX5_digest : yX5_digest.cls = RX5 ∧ yX5_digest.cls ≠ "java/lang/invoke/MethodHandle" ∧ yX5_digest.cls ≠ "java/lang/invoke/VarHandle" ∧ (parseMethodDescriptor yX5_digest.desc).map (fun d => d.parameters.length) = some 0 := by decide +kernel

set_option maxHeartbeats 4000000 in
set_option maxRecDepth 100000 in
theorem mX5_digest (l : Launch) {G : va_G} {T : Nat → ClassId} {H : Heap} {q : Nat → Nat} {a : Nat → Nat} {N : Nat → Nat} {Z : Nat → Nat → Int32} {b : Nat → Nat → Nat} {M : Nat → Nat → Nat} {Y : Nat → Nat → Nat → Int32} {sc : Nat} {tx : Nat → Int32} {L : Nat} {cu : Nat} {er : Int32} {le : Int32} {nb : Nat → Int32} {nc : Nat} (hP : va_P G vwCl (wMain T q a N Z b M Y sc tx L cu er le nb nc) H) (hwf : wf N Z) : rol l yX5_digest wsX5_digest 7 159 [.ref (q 0)] G T H (fun r => r = dig N Z L sc) := by
  refine rol_of (cc := cX5_digest) (maxL := 5) (own := RX5) (by decide +kernel) rfl rfl (Nat.le_of_ble_eq_true rfl) ?_
  intro p e s m below meth c Q ls S hkx hl hret
  obtain ⟨hx, hb, hml, hown, hts⟩ := id S
  have hl : lv_has ls 5 [(0, .ref (q 0))] := hl
  have kL222 := hts (.constantLong RX5 222 3733) (by decide +kernel)
  have k27 := hts (.fieldLink RX5 27 "SunsetDates" "orders" "LSunsetDates$Orders;") (by decide +kernel)
  have iX5 : ∀ w ∈ wsX50, w ∈ wsX5_digest := by decide +kernel
  have k199 := hts (.fieldLink RX5 199 "SunsetDates$Orders" "length" "I") (by decide +kernel)
  have iX1 : ∀ w ∈ wsX10, w ∈ wsX5_digest := by decide +kernel
  have k12 := hts (.fieldLink RX5 12 "SunsetDates" "now" "LSunsetDates$Calendar;") (by decide +kernel)
  have k35 := hts (.fieldLink RX5 35 "SunsetDates$Calendar" "versions" "LSunsetDates$Versions;") (by decide +kernel)
  have iX0 : ∀ w ∈ wsX00, w ∈ wsX5_digest := by decide +kernel
  have k39 := hts (.fieldLink RX5 39 "SunsetDates$Versions" "count" "I") (by decide +kernel)
  have iX4 : ∀ w ∈ wsX40, w ∈ wsX5_digest := by decide +kernel
  have k80 := hts (.fieldLink RX5 80 "SunsetDates$Calendar" "users" "LSunsetDates$Users;") (by decide +kernel)
  have k84 := hts (.fieldLink RX5 84 "SunsetDates$Users" "count" "I") (by decide +kernel)
  have iX3 : ∀ w ∈ wsX30, w ∈ wsX5_digest := by decide +kernel
  have k125 := hts (.fieldLink RX5 125 "SunsetDates$Calendar" "shims" "LSunsetDates$Shims;") (by decide +kernel)
  have k139 := hts (.fieldLink RX5 139 "SunsetDates$Shims" "count" "I") (by decide +kernel)
  have iX2 : ∀ w ∈ wsX20, w ∈ wsX5_digest := by decide +kernel
  have k20 := hts (.fieldLink RX5 20 "SunsetDates" "savedCount" "I") (by decide +kernel)
  have hb2 := hwf.1
  refine lv_ldc2 hx hb hown kL222 dX5_digest_0 ?_
  refine lv_aload_n hx hb dX5_digest_3 rfl (lv_at hl 0 rfl) ?_
  refine va_get (D := G) (ci := 5) (C := RX5) (T := TX5) (N := 4) hx hb hts iX5 hown hkx.1 hP 0 rfl rfl 3 (by decide) k27 (fun _ h9 => h9) rfl dX5_digest_4 ?_
  refine va_get (D := G) (ci := 1) (C := RX1) (T := TX1) (N := 7) hx hb hts iX1 hown hkx.1 hP 2 rfl rfl 1 (by decide) k199 (fun _ h9 => h9) rfl dX5_digest_7 ?_
  refine rol_S S hkx (mX5_mixed l (h := 3733) (v := (nI L))) gX5_digest_X5_mixed rfl idX5_mixed.2 ⟨Nat.le_of_ble_eq_true rfl, Nat.le_of_ble_eq_true rfl⟩ rfl hl.1 rfl (Nat.le_of_ble_eq_true rfl) dX5_digest_10 ⟨Nat.le_of_ble_eq_true rfl, Nat.le_of_ble_eq_true rfl⟩ (fun r_1 hr_1 => ?_)
  subst hr_1
  refine lv_lstore_n (lv' := [(1, .long (mx 3733 (nI L))), (0, .ref (q 0))]) hx hb dX5_digest_13 rfl hl (by decide) rfl (fun ls hl => ?_)
  refine lv_iconst (v := 0) hx hb dX5_digest_14 (by decide) ?_
  refine lv_istore_n (lv' := [(3, .int 0), (1, .long (mx 3733 (nI L))), (0, .ref (q 0))]) hx hb dX5_digest_15 rfl hl (by decide) rfl (fun ls hl => ?_)
  have L16 : ∀ (fuel : Nat) (k : Nat) (hk : Int64), 8 - k < fuel → k ≤ 8 → hk = dg1 N Z L k → ∀ ls : Array Slot, lv_has ls 5 [(0, .ref (q 0)), (1, .long hk), (3, .int (nI k))] → W p l e (rmo 7 159) s m ([.ref (q 0)] : List Value).toArray below meth c H [] 0 0 Q (F0 m 16 ls []) := by
    intro fuel
    induction fuel with
    | zero => intro k hk hm; exact absurd hm (Nat.not_lt_zero _)
    | succ fuel ih16 =>
      intro k hk hm16 hkk hhk ls hl
      refine lv_iload_n hx hb dX5_digest_16 rfl (lv_at hl 2 rfl) ?_
      refine lv_bipush (v := 7) hx hb dX5_digest_17 (by decide) ?_
      refine lv_icmp_gt (tgt := 41) hx hb dX5_digest_19 (by decide) (fun c_2 => ?_) (fun c_2 => ?_)
      · replace c_2 := cn_lt (a := 7) (b := k) (by omega) (by omega) c_2
        refine lv_iconst (v := 0) hx hb dX5_digest_41 (by decide) ?_
        refine lv_istore_n (lv' := [(3, .int 0), (0, .ref (q 0)), (1, .long hk)]) hx hb dX5_digest_42 rfl hl (by decide) rfl (fun ls hl => ?_)
        have L43 : ∀ (fuel : Nat) (v : Nat) (hv : Int64), N 0 - v < fuel → v ≤ N 0 → hv = dg2 N Z L v → ∀ ls : Array Slot, lv_has ls 5 [(0, .ref (q 0)), (1, .long hv), (3, .int (nI v))] → W p l e (rmo 7 159) s m ([.ref (q 0)] : List Value).toArray below meth c H [] 0 0 Q (F0 m 43 ls []) := by
          intro fuel
          induction fuel with
          | zero => intro v hv hm; exact absurd hm (Nat.not_lt_zero _)
          | succ fuel ih43 =>
            intro v hv hm43 hkv hhv ls hl
            refine lv_iload_n hx hb dX5_digest_43 rfl (lv_at hl 2 rfl) ?_
            refine lv_aload_n hx hb dX5_digest_44 rfl (lv_at hl 0 rfl) ?_
            refine va_get (D := G) (ci := 5) (C := RX5) (T := TX5) (N := 4) hx hb hts iX5 hown hkx.1 hP 0 rfl rfl 0 (by decide) k12 (fun _ h9 => h9) rfl dX5_digest_45 ?_
            refine va_get (D := G) (ci := 0) (C := RX0) (T := TX0) (N := 4) hx hb hts iX0 hown hkx.1 hP 5 rfl rfl 0 (by decide) k35 (fun _ h9 => h9) rfl dX5_digest_48 ?_
            refine va_get (D := G) (ci := 4) (C := RX4) (T := TX4) (N := 5) hx hb hts iX4 hown hkx.1 hP 6 rfl rfl 0 (by decide) k39 (fun _ h9 => h9) rfl dX5_digest_51 ?_
            refine lv_icmp_ge (tgt := 93) hx hb dX5_digest_54 (by decide) (fun c_3 => ?_) (fun c_3 => ?_)
            · replace c_3 := cn_le (a := (N 0)) (b := v) (by omega) (by omega) c_3
              refine lv_iconst (v := 0) hx hb dX5_digest_93 (by decide) ?_
              refine lv_istore_n (lv' := [(3, .int 0), (0, .ref (q 0)), (1, .long hv)]) hx hb dX5_digest_94 rfl hl (by decide) rfl (fun ls hl => ?_)
              have L95 : ∀ (fuel : Nat) (u : Nat) (hu : Int64), N 2 - u < fuel → u ≤ N 2 → hu = dg3 N Z L u → ∀ ls : Array Slot, lv_has ls 5 [(0, .ref (q 0)), (1, .long hu), (3, .int (nI u))] → W p l e (rmo 7 159) s m ([.ref (q 0)] : List Value).toArray below meth c H [] 0 0 Q (F0 m 95 ls []) := by
                intro fuel
                induction fuel with
                | zero => intro u hu hm; exact absurd hm (Nat.not_lt_zero _)
                | succ fuel ih95 =>
                  intro u hu hm95 hku hhu ls hl
                  refine lv_iload_n hx hb dX5_digest_95 rfl (lv_at hl 2 rfl) ?_
                  refine lv_aload_n hx hb dX5_digest_96 rfl (lv_at hl 0 rfl) ?_
                  refine va_get (D := G) (ci := 5) (C := RX5) (T := TX5) (N := 4) hx hb hts iX5 hown hkx.1 hP 0 rfl rfl 0 (by decide) k12 (fun _ h9 => h9) rfl dX5_digest_97 ?_
                  refine va_get (D := G) (ci := 0) (C := RX0) (T := TX0) (N := 4) hx hb hts iX0 hown hkx.1 hP 5 rfl rfl 2 (by decide) k80 (fun _ h9 => h9) rfl dX5_digest_100 ?_
                  refine va_get (D := G) (ci := 3) (C := RX3) (T := TX3) (N := 7) hx hb hts iX3 hown hkx.1 hP 11 rfl rfl 0 (by decide) k84 (fun _ h9 => h9) rfl dX5_digest_103 ?_
                  refine lv_icmp_ge (tgt := 162) hx hb dX5_digest_106 (by decide) (fun c_4 => ?_) (fun c_4 => ?_)
                  · replace c_4 := cn_le (a := (N 2)) (b := u) (by omega) (by omega) c_4
                    refine lv_iconst (v := 0) hx hb dX5_digest_162 (by decide) ?_
                    refine lv_istore_n (lv' := [(3, .int 0), (0, .ref (q 0)), (1, .long hu)]) hx hb dX5_digest_163 rfl hl (by decide) rfl (fun ls hl => ?_)
                    have L164 : ∀ (fuel : Nat) (t : Nat) (ht : Int64), N 3 - t < fuel → t ≤ N 3 → ht = dg4 N Z L t → ∀ ls : Array Slot, lv_has ls 5 [(0, .ref (q 0)), (1, .long ht), (3, .int (nI t))] → W p l e (rmo 7 159) s m ([.ref (q 0)] : List Value).toArray below meth c H [] 0 0 Q (F0 m 164 ls []) := by
                      intro fuel
                      induction fuel with
                      | zero => intro t ht hm; exact absurd hm (Nat.not_lt_zero _)
                      | succ fuel ih164 =>
                        intro t ht hm164 hkt hht ls hl
                        refine lv_iload_n hx hb dX5_digest_164 rfl (lv_at hl 2 rfl) ?_
                        refine lv_aload_n hx hb dX5_digest_165 rfl (lv_at hl 0 rfl) ?_
                        refine va_get (D := G) (ci := 5) (C := RX5) (T := TX5) (N := 4) hx hb hts iX5 hown hkx.1 hP 0 rfl rfl 0 (by decide) k12 (fun _ h9 => h9) rfl dX5_digest_166 ?_
                        refine va_get (D := G) (ci := 0) (C := RX0) (T := TX0) (N := 4) hx hb hts iX0 hown hkx.1 hP 5 rfl rfl 3 (by decide) k125 (fun _ h9 => h9) rfl dX5_digest_169 ?_
                        refine va_get (D := G) (ci := 2) (C := RX2) (T := TX2) (N := 6) hx hb hts iX2 hown hkx.1 hP 18 rfl rfl 0 (by decide) k139 (fun _ h9 => h9) rfl dX5_digest_172 ?_
                        refine lv_icmp_ge (tgt := 217) hx hb dX5_digest_175 (by decide) (fun c_5 => ?_) (fun c_5 => ?_)
                        · replace c_5 := cn_le (a := (N 3)) (b := t) (by omega) (by omega) c_5
                          refine lv_lload_n hx hb dX5_digest_217 rfl (lv_at hl 1 rfl) ?_
                          refine lv_aload_n hx hb dX5_digest_218 rfl (lv_at hl 0 rfl) ?_
                          refine va_get (D := G) (ci := 5) (C := RX5) (T := TX5) (N := 4) hx hb hts iX5 hown hkx.1 hP 0 rfl rfl 0 (by decide) k12 (fun _ h9 => h9) rfl dX5_digest_219 ?_
                          refine lv_iconst (v := 0) hx hb dX5_digest_222 (by decide) ?_
                          refine lv_sipush (v := 999) hx hb dX5_digest_223 (by decide) ?_
                          refine ro_V S hkx (mX0_costOfAll l (f := 0) (w := 999) (hP := P_mid hP) (hwf := hwf) (hfl := (by omega)) (hl9 := (by omega))) gX5_digest_X0_costOfAll rfl idX0_costOfAll ⟨Nat.le_of_ble_eq_true rfl, Nat.le_of_ble_eq_true rfl⟩ hP 5 rfl rfl rfl rfl hl.1 rfl (Nat.le_of_ble_eq_true rfl) dX5_digest_226 ⟨Nat.le_of_ble_eq_true rfl, Nat.le_of_ble_eq_true rfl⟩ (fun r_6 hr_6 => ?_)
                          subst hr_6
                          refine rol_S S hkx (mX5_mixed l (h := ht) (v := (smD (cAlD N Z) 0 (999 + 1 - 0)))) gX5_digest_X5_mixed rfl idX5_mixed.2 ⟨Nat.le_of_ble_eq_true rfl, Nat.le_of_ble_eq_true rfl⟩ rfl hl.1 rfl (Nat.le_of_ble_eq_true rfl) dX5_digest_229 ⟨Nat.le_of_ble_eq_true rfl, Nat.le_of_ble_eq_true rfl⟩ (fun r_7 hr_7 => ?_)
                          subst hr_7
                          refine lv_lstore_n (lv' := [(1, .long (mx ht (smD (cAlD N Z) 0 (999 + 1 - 0)))), (0, .ref (q 0)), (3, .int (nI t))]) hx hb dX5_digest_232 rfl hl (by decide) rfl (fun ls hl => ?_)
                          refine lv_lload_n hx hb dX5_digest_233 rfl (lv_at hl 0 rfl) ?_
                          refine lv_aload_n hx hb dX5_digest_234 rfl (lv_at hl 1 rfl) ?_
                          refine va_get (D := G) (ci := 5) (C := RX5) (T := TX5) (N := 4) hx hb hts iX5 hown hkx.1 hP 0 rfl rfl 2 (by decide) k20 (fun _ h9 => h9) rfl dX5_digest_235 ?_
                          refine rol_S S hkx (mX5_mixed l (h := (mx ht (smD (cAlD N Z) 0 (999 + 1 - 0)))) (v := (nI sc))) gX5_digest_X5_mixed rfl idX5_mixed.2 ⟨Nat.le_of_ble_eq_true rfl, Nat.le_of_ble_eq_true rfl⟩ rfl hl.1 rfl (Nat.le_of_ble_eq_true rfl) dX5_digest_238 ⟨Nat.le_of_ble_eq_true rfl, Nat.le_of_ble_eq_true rfl⟩ (fun r_8 hr_8 => ?_)
                          subst hr_8
                          exact hret _ _ _ (show (mx (mx ht (smD (cAlD N Z) 0 (999 + 1 - 0))) (nI sc)) = dig N Z L sc from by rw [hht, show t = N 3 by omega]; rfl) dX5_digest_241
                        · replace c_5 := cn_nle (a := (N 3)) (b := t) (by omega) (by omega) c_5
                          refine lv_iconst (v := 0) hx hb dX5_digest_178 (by decide) ?_
                          refine lv_istore (lv' := [(4, .int 0), (0, .ref (q 0)), (1, .long ht), (3, .int (nI t))]) hx hb dX5_digest_179 hl (by decide) rfl (fun ls hl => ?_)
                          have L181 : ∀ (fuel : Nat) (it : Nat) (gt : Int64), 5 - it < fuel → it ≤ 5 → gt = mxL (fun w => Z (11 + w) t) (dg4 N Z L t) it → ∀ ls : Array Slot, lv_has ls 5 [(0, .ref (q 0)), (1, .long gt), (3, .int (nI t)), (4, .int (nI it))] → W p l e (rmo 7 159) s m ([.ref (q 0)] : List Value).toArray below meth c H [] 0 0 Q (F0 m 181 ls []) := by
                            intro fuel
                            induction fuel with
                            | zero => intro it gt hm; exact absurd hm (Nat.not_lt_zero _)
                            | succ fuel ih181 =>
                              intro it gt hm181 hit hgt ls hl
                              refine lv_iload hx hb dX5_digest_181 (lv_at hl 3 rfl) ?_
                              refine lv_iconst (v := 4) hx hb dX5_digest_183 (by decide) ?_
                              refine lv_icmp_gt (tgt := 211) hx hb dX5_digest_184 (by decide) (fun c_9 => ?_) (fun c_9 => ?_)
                              · replace c_9 := cn_lt (a := 4) (b := it) (by omega) (by omega) c_9
                                refine lv_iinc (v := (nI (t + 1))) (lv' := [(3, .int (nI (t + 1))), (0, .ref (q 0)), (1, .long gt), (4, .int (nI it))]) hx hb dX5_digest_211 hl (k := 2) rfl (nI_inc t) (by decide) rfl (fun ls hl => ?_)
                                refine lv_goto (tgt := 164) hx hb dX5_digest_214 (by decide) ?_
                                exact ih164 (t + 1) gt (by omega) (by omega) (by rw [hgt, show it = 5 by omega]; rfl) _ (lv_sub hl [1, 2, 0] rfl)
                              · replace c_9 := cn_nlt (a := 4) (b := it) (by omega) (by omega) c_9
                                refine lv_lload_n hx hb dX5_digest_187 rfl (lv_at hl 1 rfl) ?_
                                refine lv_aload_n hx hb dX5_digest_188 rfl (lv_at hl 0 rfl) ?_
                                refine va_get (D := G) (ci := 5) (C := RX5) (T := TX5) (N := 4) hx hb hts iX5 hown hkx.1 hP 0 rfl rfl 0 (by decide) k12 (fun _ h9 => h9) rfl dX5_digest_189 ?_
                                refine va_get (D := G) (ci := 0) (C := RX0) (T := TX0) (N := 4) hx hb hts iX0 hown hkx.1 hP 5 rfl rfl 3 (by decide) k125 (fun _ h9 => h9) rfl dX5_digest_192 ?_
                                refine lv_iload_n hx hb dX5_digest_195 rfl (lv_at hl 2 rfl) ?_
                                refine lv_iload hx hb dX5_digest_196 (lv_at hl 3 rfl) ?_
                                refine ro_V S hkx (mX2_about l (k := t) (w := it) (hP := P_mid hP) (hk := (by omega)) (hw := (by omega))) gX5_digest_X2_about rfl idX2_about ⟨Nat.le_of_ble_eq_true rfl, Nat.le_of_ble_eq_true rfl⟩ hP 18 rfl rfl rfl rfl hl.1 rfl (Nat.le_of_ble_eq_true rfl) dX5_digest_198 ⟨Nat.le_of_ble_eq_true rfl, Nat.le_of_ble_eq_true rfl⟩ (fun r_10 hr_10 => ?_)
                                subst hr_10
                                refine rol_S S hkx (mX5_mixed l (h := gt) (v := (Z (11 + it) t))) gX5_digest_X5_mixed rfl idX5_mixed.2 ⟨Nat.le_of_ble_eq_true rfl, Nat.le_of_ble_eq_true rfl⟩ rfl hl.1 rfl (Nat.le_of_ble_eq_true rfl) dX5_digest_201 ⟨Nat.le_of_ble_eq_true rfl, Nat.le_of_ble_eq_true rfl⟩ (fun r_11 hr_11 => ?_)
                                subst hr_11
                                refine lv_lstore_n (lv' := [(1, .long (mx gt (Z (11 + it) t))), (0, .ref (q 0)), (3, .int (nI t)), (4, .int (nI it))]) hx hb dX5_digest_204 rfl hl (by decide) rfl (fun ls hl => ?_)
                                refine lv_iinc (v := (nI (it + 1))) (lv' := [(4, .int (nI (it + 1))), (1, .long (mx gt (Z (11 + it) t))), (0, .ref (q 0)), (3, .int (nI t))]) hx hb dX5_digest_205 hl (k := 3) rfl (nI_inc it) (by decide) rfl (fun ls hl => ?_)
                                refine lv_goto (tgt := 181) hx hb dX5_digest_208 (by decide) ?_
                                exact ih181 (it + 1) (mx gt (Z (11 + it) t)) (by omega) (by omega) (by rw [hgt]; rfl) _ (lv_sub hl [2, 1, 3, 0] rfl)
                          exact L181 _ 0 ht (Nat.lt_succ_self _) (by omega) (by exact hht) _ (lv_sub hl [1, 2, 3, 0] rfl)
                    exact L164 _ 0 hu (Nat.lt_succ_self _) (by omega) (by rw [hhu, show u = N 2 by omega]; rfl) _ (lv_sub hl [1, 2, 0] rfl)
                  · replace c_4 := cn_nle (a := (N 2)) (b := u) (by omega) (by omega) c_4
                    refine lv_iconst (v := 0) hx hb dX5_digest_109 (by decide) ?_
                    refine lv_istore (lv' := [(4, .int 0), (0, .ref (q 0)), (1, .long hu), (3, .int (nI u))]) hx hb dX5_digest_110 hl (by decide) rfl (fun ls hl => ?_)
                    have L112 : ∀ (fuel : Nat) (iu : Nat) (gu : Int64), 6 - iu < fuel → iu ≤ 6 → gu = mxL (fun w => Z (5 + w) u) (dg3 N Z L u) iu → ∀ ls : Array Slot, lv_has ls 5 [(0, .ref (q 0)), (1, .long gu), (3, .int (nI u)), (4, .int (nI iu))] → W p l e (rmo 7 159) s m ([.ref (q 0)] : List Value).toArray below meth c H [] 0 0 Q (F0 m 112 ls []) := by
                      intro fuel
                      induction fuel with
                      | zero => intro iu gu hm; exact absurd hm (Nat.not_lt_zero _)
                      | succ fuel ih112 =>
                        intro iu gu hm112 hiu hgu ls hl
                        refine lv_iload hx hb dX5_digest_112 (lv_at hl 3 rfl) ?_
                        refine lv_iconst (v := 5) hx hb dX5_digest_114 (by decide) ?_
                        refine lv_icmp_gt (tgt := 142) hx hb dX5_digest_115 (by decide) (fun c_12 => ?_) (fun c_12 => ?_)
                        · replace c_12 := cn_lt (a := 5) (b := iu) (by omega) (by omega) c_12
                          refine lv_lload_n hx hb dX5_digest_142 rfl (lv_at hl 1 rfl) ?_
                          refine lv_aload_n hx hb dX5_digest_143 rfl (lv_at hl 0 rfl) ?_
                          refine va_get (D := G) (ci := 5) (C := RX5) (T := TX5) (N := 4) hx hb hts iX5 hown hkx.1 hP 0 rfl rfl 0 (by decide) k12 (fun _ h9 => h9) rfl dX5_digest_144 ?_
                          refine lv_iload_n hx hb dX5_digest_147 rfl (lv_at hl 2 rfl) ?_
                          refine lv_iconst (v := 0) hx hb dX5_digest_148 (by decide) ?_
                          refine ro_V S hkx (mX0_firstDayStranded l (u := u) (f := 0) (hP := P_mid hP) (hwf := hwf) (hu := (by omega)) (hf9 := (by omega))) gX5_digest_X0_firstDayStranded rfl idX0_firstDayStranded ⟨Nat.le_of_ble_eq_true rfl, Nat.le_of_ble_eq_true rfl⟩ hP 5 rfl rfl rfl rfl hl.1 rfl (Nat.le_of_ble_eq_true rfl) dX5_digest_149 ⟨Nat.le_of_ble_eq_true rfl, Nat.le_of_ble_eq_true rfl⟩ (fun r_13 hr_13 => ?_)
                          subst hr_13
                          refine rol_S S hkx (mX5_mixed l (h := gu) (v := (fstD (uuB N Z u) 0 (1000 - 0)))) gX5_digest_X5_mixed rfl idX5_mixed.2 ⟨Nat.le_of_ble_eq_true rfl, Nat.le_of_ble_eq_true rfl⟩ rfl hl.1 rfl (Nat.le_of_ble_eq_true rfl) dX5_digest_152 ⟨Nat.le_of_ble_eq_true rfl, Nat.le_of_ble_eq_true rfl⟩ (fun r_14 hr_14 => ?_)
                          subst hr_14
                          refine lv_lstore_n (lv' := [(1, .long (mx gu (fstD (uuB N Z u) 0 (1000 - 0)))), (0, .ref (q 0)), (3, .int (nI u)), (4, .int (nI iu))]) hx hb dX5_digest_155 rfl hl (by decide) rfl (fun ls hl => ?_)
                          refine lv_iinc (v := (nI (u + 1))) (lv' := [(3, .int (nI (u + 1))), (1, .long (mx gu (fstD (uuB N Z u) 0 (1000 - 0)))), (0, .ref (q 0)), (4, .int (nI iu))]) hx hb dX5_digest_156 hl (k := 2) rfl (nI_inc u) (by decide) rfl (fun ls hl => ?_)
                          refine lv_goto (tgt := 95) hx hb dX5_digest_159 (by decide) ?_
                          exact ih95 (u + 1) (mx gu (fstD (uuB N Z u) 0 (1000 - 0))) (by omega) (by omega) (by rw [hgu, show iu = 6 by omega]; rfl) _ (lv_sub hl [2, 1, 0] rfl)
                        · replace c_12 := cn_nlt (a := 5) (b := iu) (by omega) (by omega) c_12
                          refine lv_lload_n hx hb dX5_digest_118 rfl (lv_at hl 1 rfl) ?_
                          refine lv_aload_n hx hb dX5_digest_119 rfl (lv_at hl 0 rfl) ?_
                          refine va_get (D := G) (ci := 5) (C := RX5) (T := TX5) (N := 4) hx hb hts iX5 hown hkx.1 hP 0 rfl rfl 0 (by decide) k12 (fun _ h9 => h9) rfl dX5_digest_120 ?_
                          refine va_get (D := G) (ci := 0) (C := RX0) (T := TX0) (N := 4) hx hb hts iX0 hown hkx.1 hP 5 rfl rfl 2 (by decide) k80 (fun _ h9 => h9) rfl dX5_digest_123 ?_
                          refine lv_iload_n hx hb dX5_digest_126 rfl (lv_at hl 2 rfl) ?_
                          refine lv_iload hx hb dX5_digest_127 (lv_at hl 3 rfl) ?_
                          refine ro_V S hkx (mX3_about l (k := u) (w := iu) (hP := P_mid hP) (hk := (by omega)) (hw := (by omega))) gX5_digest_X3_about rfl idX3_about ⟨Nat.le_of_ble_eq_true rfl, Nat.le_of_ble_eq_true rfl⟩ hP 11 rfl rfl rfl rfl hl.1 rfl (Nat.le_of_ble_eq_true rfl) dX5_digest_129 ⟨Nat.le_of_ble_eq_true rfl, Nat.le_of_ble_eq_true rfl⟩ (fun r_15 hr_15 => ?_)
                          subst hr_15
                          refine rol_S S hkx (mX5_mixed l (h := gu) (v := (Z (5 + iu) u))) gX5_digest_X5_mixed rfl idX5_mixed.2 ⟨Nat.le_of_ble_eq_true rfl, Nat.le_of_ble_eq_true rfl⟩ rfl hl.1 rfl (Nat.le_of_ble_eq_true rfl) dX5_digest_132 ⟨Nat.le_of_ble_eq_true rfl, Nat.le_of_ble_eq_true rfl⟩ (fun r_16 hr_16 => ?_)
                          subst hr_16
                          refine lv_lstore_n (lv' := [(1, .long (mx gu (Z (5 + iu) u))), (0, .ref (q 0)), (3, .int (nI u)), (4, .int (nI iu))]) hx hb dX5_digest_135 rfl hl (by decide) rfl (fun ls hl => ?_)
                          refine lv_iinc (v := (nI (iu + 1))) (lv' := [(4, .int (nI (iu + 1))), (1, .long (mx gu (Z (5 + iu) u))), (0, .ref (q 0)), (3, .int (nI u))]) hx hb dX5_digest_136 hl (k := 3) rfl (nI_inc iu) (by decide) rfl (fun ls hl => ?_)
                          refine lv_goto (tgt := 112) hx hb dX5_digest_139 (by decide) ?_
                          exact ih112 (iu + 1) (mx gu (Z (5 + iu) u)) (by omega) (by omega) (by rw [hgu]; rfl) _ (lv_sub hl [2, 1, 3, 0] rfl)
                    exact L112 _ 0 hu (Nat.lt_succ_self _) (by omega) (by exact hhu) _ (lv_sub hl [1, 2, 3, 0] rfl)
              exact L95 _ 0 hv (Nat.lt_succ_self _) (by omega) (by rw [hhv, show v = N 0 by omega]; rfl) _ (lv_sub hl [1, 2, 0] rfl)
            · replace c_3 := cn_nle (a := (N 0)) (b := v) (by omega) (by omega) c_3
              refine lv_iconst (v := 0) hx hb dX5_digest_57 (by decide) ?_
              refine lv_istore (lv' := [(4, .int 0), (0, .ref (q 0)), (1, .long hv), (3, .int (nI v))]) hx hb dX5_digest_58 hl (by decide) rfl (fun ls hl => ?_)
              have L60 : ∀ (fuel : Nat) (iv : Nat) (gv : Int64), 5 - iv < fuel → iv ≤ 5 → gv = mxL (ofV N Z v) (dg2 N Z L v) iv → ∀ ls : Array Slot, lv_has ls 5 [(0, .ref (q 0)), (1, .long gv), (3, .int (nI v)), (4, .int (nI iv))] → W p l e (rmo 7 159) s m ([.ref (q 0)] : List Value).toArray below meth c H [] 0 0 Q (F0 m 60 ls []) := by
                intro fuel
                induction fuel with
                | zero => intro iv gv hm; exact absurd hm (Nat.not_lt_zero _)
                | succ fuel ih60 =>
                  intro iv gv hm60 hiv hgv ls hl
                  refine lv_iload hx hb dX5_digest_60 (lv_at hl 3 rfl) ?_
                  refine lv_iconst (v := 4) hx hb dX5_digest_62 (by decide) ?_
                  refine lv_icmp_gt (tgt := 87) hx hb dX5_digest_63 (by decide) (fun c_17 => ?_) (fun c_17 => ?_)
                  · replace c_17 := cn_lt (a := 4) (b := iv) (by omega) (by omega) c_17
                    refine lv_iinc (v := (nI (v + 1))) (lv' := [(3, .int (nI (v + 1))), (0, .ref (q 0)), (1, .long gv), (4, .int (nI iv))]) hx hb dX5_digest_87 hl (k := 2) rfl (nI_inc v) (by decide) rfl (fun ls hl => ?_)
                    refine lv_goto (tgt := 43) hx hb dX5_digest_90 (by decide) ?_
                    exact ih43 (v + 1) gv (by omega) (by omega) (by rw [hgv, show iv = 5 by omega]; rfl) _ (lv_sub hl [1, 2, 0] rfl)
                  · replace c_17 := cn_nlt (a := 4) (b := iv) (by omega) (by omega) c_17
                    refine lv_lload_n hx hb dX5_digest_66 rfl (lv_at hl 1 rfl) ?_
                    refine lv_aload_n hx hb dX5_digest_67 rfl (lv_at hl 0 rfl) ?_
                    refine va_get (D := G) (ci := 5) (C := RX5) (T := TX5) (N := 4) hx hb hts iX5 hown hkx.1 hP 0 rfl rfl 0 (by decide) k12 (fun _ h9 => h9) rfl dX5_digest_68 ?_
                    refine lv_iload_n hx hb dX5_digest_71 rfl (lv_at hl 2 rfl) ?_
                    refine lv_iload hx hb dX5_digest_72 (lv_at hl 3 rfl) ?_
                    refine ro_V S hkx (mX0_ofVersion l (v := v) (w := iv) (hP := P_mid hP) (hv := (by omega)) (hs := (by omega)) (hw := (by omega))) gX5_digest_X0_ofVersion rfl idX0_ofVersion ⟨Nat.le_of_ble_eq_true rfl, Nat.le_of_ble_eq_true rfl⟩ hP 5 rfl rfl rfl rfl hl.1 rfl (Nat.le_of_ble_eq_true rfl) dX5_digest_74 ⟨Nat.le_of_ble_eq_true rfl, Nat.le_of_ble_eq_true rfl⟩ (fun r_18 hr_18 => ?_)
                    subst hr_18
                    refine rol_S S hkx (mX5_mixed l (h := gv) (v := (ofV N Z v iv))) gX5_digest_X5_mixed rfl idX5_mixed.2 ⟨Nat.le_of_ble_eq_true rfl, Nat.le_of_ble_eq_true rfl⟩ rfl hl.1 rfl (Nat.le_of_ble_eq_true rfl) dX5_digest_77 ⟨Nat.le_of_ble_eq_true rfl, Nat.le_of_ble_eq_true rfl⟩ (fun r_19 hr_19 => ?_)
                    subst hr_19
                    refine lv_lstore_n (lv' := [(1, .long (mx gv (ofV N Z v iv))), (0, .ref (q 0)), (3, .int (nI v)), (4, .int (nI iv))]) hx hb dX5_digest_80 rfl hl (by decide) rfl (fun ls hl => ?_)
                    refine lv_iinc (v := (nI (iv + 1))) (lv' := [(4, .int (nI (iv + 1))), (1, .long (mx gv (ofV N Z v iv))), (0, .ref (q 0)), (3, .int (nI v))]) hx hb dX5_digest_81 hl (k := 3) rfl (nI_inc iv) (by decide) rfl (fun ls hl => ?_)
                    refine lv_goto (tgt := 60) hx hb dX5_digest_84 (by decide) ?_
                    exact ih60 (iv + 1) (mx gv (ofV N Z v iv)) (by omega) (by omega) (by rw [hgv]; rfl) _ (lv_sub hl [2, 1, 3, 0] rfl)
              exact L60 _ 0 hv (Nat.lt_succ_self _) (by omega) (by exact hhv) _ (lv_sub hl [1, 2, 3, 0] rfl)
        exact L43 _ 0 hk (Nat.lt_succ_self _) (by omega) (by rw [hhk, show k = 8 by omega]; rfl) _ (lv_sub hl [1, 2, 0] rfl)
      · replace c_2 := cn_nlt (a := 7) (b := k) (by omega) (by omega) c_2
        refine lv_lload_n hx hb dX5_digest_22 rfl (lv_at hl 1 rfl) ?_
        refine lv_aload_n hx hb dX5_digest_23 rfl (lv_at hl 0 rfl) ?_
        refine va_get (D := G) (ci := 5) (C := RX5) (T := TX5) (N := 4) hx hb hts iX5 hown hkx.1 hP 0 rfl rfl 0 (by decide) k12 (fun _ h9 => h9) rfl dX5_digest_24 ?_
        refine lv_iload_n hx hb dX5_digest_27 rfl (lv_at hl 2 rfl) ?_
        refine ro_V S hkx (mX0_number l (w := k) (hP := P_mid hP) (hwf := hwf) (hw := (by omega))) gX5_digest_X0_number rfl idX0_number ⟨Nat.le_of_ble_eq_true rfl, Nat.le_of_ble_eq_true rfl⟩ hP 5 rfl rfl rfl rfl hl.1 rfl (Nat.le_of_ble_eq_true rfl) dX5_digest_28 ⟨Nat.le_of_ble_eq_true rfl, Nat.le_of_ble_eq_true rfl⟩ (fun r_20 hr_20 => ?_)
        subst hr_20
        refine rol_S S hkx (mX5_mixed l (h := hk) (v := (nmb N Z k))) gX5_digest_X5_mixed rfl idX5_mixed.2 ⟨Nat.le_of_ble_eq_true rfl, Nat.le_of_ble_eq_true rfl⟩ rfl hl.1 rfl (Nat.le_of_ble_eq_true rfl) dX5_digest_31 ⟨Nat.le_of_ble_eq_true rfl, Nat.le_of_ble_eq_true rfl⟩ (fun r_21 hr_21 => ?_)
        subst hr_21
        refine lv_lstore_n (lv' := [(1, .long (mx hk (nmb N Z k))), (0, .ref (q 0)), (3, .int (nI k))]) hx hb dX5_digest_34 rfl hl (by decide) rfl (fun ls hl => ?_)
        refine lv_iinc (v := (nI (k + 1))) (lv' := [(3, .int (nI (k + 1))), (1, .long (mx hk (nmb N Z k))), (0, .ref (q 0))]) hx hb dX5_digest_35 hl (k := 2) rfl (nI_inc k) (by decide) rfl (fun ls hl => ?_)
        refine lv_goto (tgt := 16) hx hb dX5_digest_38 (by decide) ?_
        exact ih16 (k + 1) (mx hk (nmb N Z k)) (by omega) (by omega) (by rw [hhk]; rfl) _ (lv_sub hl [2, 1, 0] rfl)
  exact L16 _ 0 (mx 3733 (nI L)) (Nat.lt_succ_self _) (by omega) (by rfl) _ (lv_sub hl [2, 1, 0] rfl)

theorem idX6_digest : yX6_digest.cls = RX6 ∧ yX6_digest.cls ≠ "java/lang/invoke/MethodHandle" ∧ yX6_digest.cls ≠ "java/lang/invoke/VarHandle" ∧ (parseMethodDescriptor yX6_digest.desc).map (fun d => d.parameters.length) = some 0 := by decide +kernel

set_option maxHeartbeats 4000000 in
set_option maxRecDepth 100000 in
theorem mX6_digest (l : Launch) {G : va_G} {T : Nat → ClassId} {H0 : Heap} {r : Nat → Nat} {N : Nat → Nat} {Z : Nat → Nat → Int32} {mm : Nat → Int32} {pp : Nat → Int32} {xx : Nat → Int32} {th : Int32} {sv : Nat} {n1 : Nat} {ac : Int32} {ea : Int32} {le : Int32} {v1 : Int32} {v2 : Int32} {v3 : Int32} {v4 : Int32} {v5 : Int32} (hP : va_P G vwCl (wMod T r mm pp xx th sv n1 ac ea le v1 v2 v3 v4 v5) H0) (hD : va_D (fun _ => True) (wMod T r mm pp xx th sv n1 ac ea le v1 v2 v3 v4 v5)) (hwf : wf N Z) (hr : rel N Z mm) : mu l yX6_digest wsX6_digest 7 166 [.ref (r 0)] G T H0 (wMod T r mm pp xx th sv n1 ac ea le v1 v2 v3 v4 v5) (fun v9 H9 => v9 = some (.long (dig N Z n1 sv)) ∧ va_P G vwCl (wMod T r mm pp xx 0 sv n1 ac ea le v1 v2 v3 v4 v5) H9) := by
  refine mu_ofl (cc := cX6_digest) (maxL := 5) (own := RX6) (by decide +kernel) rfl rfl (Nat.le_of_ble_eq_true rfl) hD ?_
  intro p e s m below meth c Q ls A S hkx hl hD hS hA hret
  obtain ⟨hx, hb, hml, hown, hts⟩ := id S
  have hl : lv_has ls 5 [(0, .ref (r 0))] := hl
  have k19 := hts (.fieldLink RX6 19 "SunsetDatesModel" "thrown" "I") (by decide +kernel)
  have iX6 : ∀ w ∈ wsX60, w ∈ wsX6_digest := by decide +kernel
  have kL199 := hts (.constantLong RX6 199 3733) (by decide +kernel)
  have k148 := hts (.fieldLink RX6 148 "SunsetDatesModel" "texted" "I") (by decide +kernel)
  have k7 := hts (.fieldLink RX6 7 "SunsetDatesModel" "now" "[I") (by decide +kernel)
  have k27 := hts (.fieldLink RX6 27 "SunsetDatesModel" "saved" "I") (by decide +kernel)
  have hb2 := hwf.1
  obtain ⟨hr0, hr1, hr2, hr3, hrv, hrf, hru, hrs⟩ := id hr
  refine lv_aload_n hx hb dX6_digest_0 rfl (lv_at hl 0 rfl) ?_
  refine lv_iconst (v := 0) hx hb dX6_digest_1 (by decide) ?_
  refine va_put (D := G) (ci := 6) (v := .int 0) (ty := .int) (C := RX6) (T := TX6) (N := 14) hx hb hts iX6 tyX6 tyX6_ok nmX6 hown hkx.1 hP hD hS 0 rfl rfl 1 (by decide) k19 (fun _ h9 => h9) rfl (by decide +kernel) rfl rfl (Nat.le_of_ble_eq_true rfl) dX6_digest_2 (fun H locs hP hD hS => ?_)
  have hP : va_P G vwCl (wMod T r mm pp xx 0 sv n1 ac ea le v1 v2 v3 v4 v5) H := hP
  have hD : va_D A (wMod T r mm pp xx 0 sv n1 ac ea le v1 v2 v3 v4 v5) := hD
  refine lv_ldc2 hx hb hown kL199 dX6_digest_5 ?_
  refine lv_aload_n hx hb dX6_digest_8 rfl (lv_at hl 0 rfl) ?_
  refine va_get (D := G) (ci := 6) (C := RX6) (T := TX6) (N := 14) hx hb hts iX6 hown hkx.1 hP 0 rfl rfl 5 (by decide) k148 (fun _ h9 => h9) rfl dX6_digest_9 ?_
  refine rol_S S hkx (mX6_mix l (h := 3733) (v := (nI n1))) gX6_digest_X6_mix rfl idX6_mix.2 ⟨Nat.le_of_ble_eq_true rfl, Nat.le_of_ble_eq_true rfl⟩ rfl hl.1 rfl (Nat.le_of_ble_eq_true rfl) dX6_digest_12 ⟨Nat.le_of_ble_eq_true rfl, Nat.le_of_ble_eq_true rfl⟩ (fun r_1 hr_1 => ?_)
  subst hr_1
  refine lv_lstore_n (lv' := [(1, .long (mx 3733 (nI n1))), (0, .ref (r 0))]) hx hb dX6_digest_15 rfl hl (by decide) rfl (fun ls hl => ?_)
  refine lv_iconst (v := 0) hx hb dX6_digest_16 (by decide) ?_
  refine lv_istore_n (lv' := [(3, .int 0), (1, .long (mx 3733 (nI n1))), (0, .ref (r 0))]) hx hb dX6_digest_17 rfl hl (by decide) rfl (fun ls hl => ?_)
  have L18 : ∀ (fuel : Nat) (k : Nat) (hk : Int64), 8 - k < fuel → k ≤ 8 → hk = dg1 N Z n1 k → ∀ (H : Heap) (locs : List Loc), va_P G vwCl (wMod T r mm pp xx 0 sv n1 ac ea le v1 v2 v3 v4 v5) H → va_D A (wMod T r mm pp xx 0 sv n1 ac ea le v1 v2 v3 v4 v5) → va_S A H0 H locs → ∀ ls : Array Slot, lv_has ls 5 [(0, .ref (r 0)), (1, .long hk), (3, .int (nI k))] → W p l e (rmo 7 166) s m ([.ref (r 0)] : List Value).toArray below meth c H locs 0 0 Q (F0 m 18 ls []) := by
    intro fuel
    induction fuel with
    | zero => intro k hk hm; exact absurd hm (Nat.not_lt_zero _)
    | succ fuel ih18 =>
      intro k hk hm18 hkk hhk H locs hP hD hS ls hl
      refine lv_iload_n hx hb dX6_digest_18 rfl (lv_at hl 2 rfl) ?_
      refine lv_bipush (v := 8) hx hb dX6_digest_19 (by decide) ?_
      refine lv_icmp_ge (tgt := 40) hx hb dX6_digest_21 (by decide) (fun c_2 => ?_) (fun c_2 => ?_)
      · replace c_2 := cn_le (a := 8) (b := k) (by omega) (by omega) c_2
        refine lv_iconst (v := 0) hx hb dX6_digest_40 (by decide) ?_
        refine lv_istore_n (lv' := [(3, .int 0), (0, .ref (r 0)), (1, .long hk)]) hx hb dX6_digest_41 rfl hl (by decide) rfl (fun ls hl => ?_)
        have L42 : ∀ (fuel : Nat) (v : Nat) (hv : Int64), N 0 - v < fuel → v ≤ N 0 → hv = dg2 N Z n1 v → ∀ (H : Heap) (locs : List Loc), va_P G vwCl (wMod T r mm pp xx 0 sv n1 ac ea le v1 v2 v3 v4 v5) H → va_D A (wMod T r mm pp xx 0 sv n1 ac ea le v1 v2 v3 v4 v5) → va_S A H0 H locs → ∀ ls : Array Slot, lv_has ls 5 [(0, .ref (r 0)), (1, .long hv), (3, .int (nI v))] → W p l e (rmo 7 166) s m ([.ref (r 0)] : List Value).toArray below meth c H locs 0 0 Q (F0 m 42 ls []) := by
          intro fuel
          induction fuel with
          | zero => intro v hv hm; exact absurd hm (Nat.not_lt_zero _)
          | succ fuel ih42 =>
            intro v hv hm42 hkv hhv H locs hP hD hS ls hl
            refine lv_iload_n hx hb dX6_digest_42 rfl (lv_at hl 2 rfl) ?_
            refine lv_aload_n hx hb dX6_digest_43 rfl (lv_at hl 0 rfl) ?_
            refine va_get (D := G) (ci := 6) (C := RX6) (T := TX6) (N := 14) hx hb hts iX6 hown hkx.1 hP 0 rfl rfl 0 (by decide) k7 (fun _ h9 => h9) rfl dX6_digest_44 ?_
            refine lv_iconst (v := 0) hx hb dX6_digest_47 (by decide) ?_
            refine ia hx hb hkx hP 1 rfl 0 rfl (by omega) (by decide) dX6_digest_48 ?_
            rw [hr0]
            refine lv_icmp_ge (tgt := 85) hx hb dX6_digest_49 (by decide) (fun c_3 => ?_) (fun c_3 => ?_)
            · replace c_3 := cn_le (a := (N 0)) (b := v) (by omega) (by omega) c_3
              refine lv_iconst (v := 0) hx hb dX6_digest_85 (by decide) ?_
              refine lv_istore_n (lv' := [(3, .int 0), (0, .ref (r 0)), (1, .long hv)]) hx hb dX6_digest_86 rfl hl (by decide) rfl (fun ls hl => ?_)
              have L87 : ∀ (fuel : Nat) (u : Nat) (hu : Int64), N 2 - u < fuel → u ≤ N 2 → hu = dg3 N Z n1 u → ∀ (H : Heap) (locs : List Loc), va_P G vwCl (wMod T r mm pp xx 0 sv n1 ac ea le v1 v2 v3 v4 v5) H → va_D A (wMod T r mm pp xx 0 sv n1 ac ea le v1 v2 v3 v4 v5) → va_S A H0 H locs → ∀ ls : Array Slot, lv_has ls 5 [(0, .ref (r 0)), (1, .long hu), (3, .int (nI u))] → W p l e (rmo 7 166) s m ([.ref (r 0)] : List Value).toArray below meth c H locs 0 0 Q (F0 m 87 ls []) := by
                intro fuel
                induction fuel with
                | zero => intro u hu hm; exact absurd hm (Nat.not_lt_zero _)
                | succ fuel ih87 =>
                  intro u hu hm87 hku hhu H locs hP hD hS ls hl
                  refine lv_iload_n hx hb dX6_digest_87 rfl (lv_at hl 2 rfl) ?_
                  refine lv_aload_n hx hb dX6_digest_88 rfl (lv_at hl 0 rfl) ?_
                  refine va_get (D := G) (ci := 6) (C := RX6) (T := TX6) (N := 14) hx hb hts iX6 hown hkx.1 hP 0 rfl rfl 0 (by decide) k7 (fun _ h9 => h9) rfl dX6_digest_89 ?_
                  refine lv_iconst (v := 2) hx hb dX6_digest_92 (by decide) ?_
                  refine ia hx hb hkx hP 1 rfl 2 rfl (by omega) (by decide) dX6_digest_93 ?_
                  rw [hr2]
                  refine lv_icmp_ge (tgt := 142) hx hb dX6_digest_94 (by decide) (fun c_4 => ?_) (fun c_4 => ?_)
                  · replace c_4 := cn_le (a := (N 2)) (b := u) (by omega) (by omega) c_4
                    refine lv_iconst (v := 0) hx hb dX6_digest_142 (by decide) ?_
                    refine lv_istore_n (lv' := [(3, .int 0), (0, .ref (r 0)), (1, .long hu)]) hx hb dX6_digest_143 rfl hl (by decide) rfl (fun ls hl => ?_)
                    have L144 : ∀ (fuel : Nat) (t : Nat) (ht : Int64), N 3 - t < fuel → t ≤ N 3 → ht = dg4 N Z n1 t → ∀ (H : Heap) (locs : List Loc), va_P G vwCl (wMod T r mm pp xx 0 sv n1 ac ea le v1 v2 v3 v4 v5) H → va_D A (wMod T r mm pp xx 0 sv n1 ac ea le v1 v2 v3 v4 v5) → va_S A H0 H locs → ∀ ls : Array Slot, lv_has ls 5 [(0, .ref (r 0)), (1, .long ht), (3, .int (nI t))] → W p l e (rmo 7 166) s m ([.ref (r 0)] : List Value).toArray below meth c H locs 0 0 Q (F0 m 144 ls []) := by
                      intro fuel
                      induction fuel with
                      | zero => intro t ht hm; exact absurd hm (Nat.not_lt_zero _)
                      | succ fuel ih144 =>
                        intro t ht hm144 hkt hht H locs hP hD hS ls hl
                        refine lv_iload_n hx hb dX6_digest_144 rfl (lv_at hl 2 rfl) ?_
                        refine lv_aload_n hx hb dX6_digest_145 rfl (lv_at hl 0 rfl) ?_
                        refine va_get (D := G) (ci := 6) (C := RX6) (T := TX6) (N := 14) hx hb hts iX6 hown hkx.1 hP 0 rfl rfl 0 (by decide) k7 (fun _ h9 => h9) rfl dX6_digest_146 ?_
                        refine lv_iconst (v := 3) hx hb dX6_digest_149 (by decide) ?_
                        refine ia hx hb hkx hP 1 rfl 3 rfl (by omega) (by decide) dX6_digest_150 ?_
                        rw [hr3]
                        refine lv_icmp_ge (tgt := 187) hx hb dX6_digest_151 (by decide) (fun c_5 => ?_) (fun c_5 => ?_)
                        · replace c_5 := cn_le (a := (N 3)) (b := t) (by omega) (by omega) c_5
                          refine lv_lload_n hx hb dX6_digest_187 rfl (lv_at hl 1 rfl) ?_
                          refine lv_aload_n hx hb dX6_digest_188 rfl (lv_at hl 0 rfl) ?_
                          refine lv_iconst (v := 0) hx hb dX6_digest_189 (by decide) ?_
                          refine lv_sipush (v := 999) hx hb dX6_digest_190 (by decide) ?_
                          refine ro_V S hkx (mX6_costsOf l (f := 0) (w := 999) (hP := hP) (hwf := hwf) (hr := hr) (hfl := (by omega)) (hl9 := (by omega))) gX6_digest_X6_costsOf rfl idX6_costsOf ⟨Nat.le_of_ble_eq_true rfl, Nat.le_of_ble_eq_true rfl⟩ hP 0 rfl rfl rfl rfl hl.1 rfl (Nat.le_of_ble_eq_true rfl) dX6_digest_193 ⟨Nat.le_of_ble_eq_true rfl, Nat.le_of_ble_eq_true rfl⟩ (fun r_6 hr_6 => ?_)
                          subst hr_6
                          refine rol_S S hkx (mX6_mix l (h := ht) (v := (smD (cAlD N Z) 0 (999 + 1 - 0)))) gX6_digest_X6_mix rfl idX6_mix.2 ⟨Nat.le_of_ble_eq_true rfl, Nat.le_of_ble_eq_true rfl⟩ rfl hl.1 rfl (Nat.le_of_ble_eq_true rfl) dX6_digest_196 ⟨Nat.le_of_ble_eq_true rfl, Nat.le_of_ble_eq_true rfl⟩ (fun r_7 hr_7 => ?_)
                          subst hr_7
                          refine lv_aload_n hx hb dX6_digest_199 rfl (lv_at hl 0 rfl) ?_
                          refine va_get (D := G) (ci := 6) (C := RX6) (T := TX6) (N := 14) hx hb hts iX6 hown hkx.1 hP 0 rfl rfl 3 (by decide) k27 (fun _ h9 => h9) rfl dX6_digest_200 ?_
                          refine rol_S S hkx (mX6_mix l (h := (mx ht (smD (cAlD N Z) 0 (999 + 1 - 0)))) (v := (nI sv))) gX6_digest_X6_mix rfl idX6_mix.2 ⟨Nat.le_of_ble_eq_true rfl, Nat.le_of_ble_eq_true rfl⟩ rfl hl.1 rfl (Nat.le_of_ble_eq_true rfl) dX6_digest_203 ⟨Nat.le_of_ble_eq_true rfl, Nat.le_of_ble_eq_true rfl⟩ (fun r_8 hr_8 => ?_)
                          subst hr_8
                          exact hret _ _ _ _ _ (show some (Value.long (mx (mx ht (smD (cAlD N Z) 0 (999 + 1 - 0))) (nI sv))) = some (Value.long (dig N Z n1 sv)) ∧ va_P G vwCl (wMod T r mm pp xx 0 sv n1 ac ea le v1 v2 v3 v4 v5) H from ⟨by refine congrArg (fun z => some (Value.long z)) (?_ : _ = _); rw [hht, show t = N 3 by omega]; rfl, hP⟩) hS dX6_digest_206
                        · replace c_5 := cn_nle (a := (N 3)) (b := t) (by omega) (by omega) c_5
                          refine lv_iconst (v := 0) hx hb dX6_digest_154 (by decide) ?_
                          refine lv_istore (lv' := [(4, .int 0), (0, .ref (r 0)), (1, .long ht), (3, .int (nI t))]) hx hb dX6_digest_155 hl (by decide) rfl (fun ls hl => ?_)
                          have L157 : ∀ (fuel : Nat) (it : Nat) (gt : Int64), 5 - it < fuel → it ≤ 5 → gt = mxL (fun w => Z (11 + w) t) (dg4 N Z n1 t) it → ∀ (H : Heap) (locs : List Loc), va_P G vwCl (wMod T r mm pp xx 0 sv n1 ac ea le v1 v2 v3 v4 v5) H → va_D A (wMod T r mm pp xx 0 sv n1 ac ea le v1 v2 v3 v4 v5) → va_S A H0 H locs → ∀ ls : Array Slot, lv_has ls 5 [(0, .ref (r 0)), (1, .long gt), (3, .int (nI t)), (4, .int (nI it))] → W p l e (rmo 7 166) s m ([.ref (r 0)] : List Value).toArray below meth c H locs 0 0 Q (F0 m 157 ls []) := by
                            intro fuel
                            induction fuel with
                            | zero => intro it gt hm; exact absurd hm (Nat.not_lt_zero _)
                            | succ fuel ih157 =>
                              intro it gt hm157 hit hgt H locs hP hD hS ls hl
                              refine lv_iload hx hb dX6_digest_157 (lv_at hl 3 rfl) ?_
                              refine lv_iconst (v := 5) hx hb dX6_digest_159 (by decide) ?_
                              refine lv_icmp_ge (tgt := 181) hx hb dX6_digest_160 (by decide) (fun c_9 => ?_) (fun c_9 => ?_)
                              · replace c_9 := cn_le (a := 5) (b := it) (by omega) (by omega) c_9
                                refine lv_iinc (v := (nI (t + 1))) (lv' := [(3, .int (nI (t + 1))), (0, .ref (r 0)), (1, .long gt), (4, .int (nI it))]) hx hb dX6_digest_181 hl (k := 2) rfl (nI_inc t) (by decide) rfl (fun ls hl => ?_)
                                refine lv_goto (tgt := 144) hx hb dX6_digest_184 (by decide) ?_
                                exact ih144 (t + 1) gt (by omega) (by omega) (by rw [hgt, show it = 5 by omega]; rfl) _ _ hP hD hS _ (lv_sub hl [1, 2, 0] rfl)
                              · replace c_9 := cn_nle (a := 5) (b := it) (by omega) (by omega) c_9
                                refine lv_lload_n hx hb dX6_digest_163 rfl (lv_at hl 1 rfl) ?_
                                refine lv_aload_n hx hb dX6_digest_164 rfl (lv_at hl 0 rfl) ?_
                                refine lv_iload_n hx hb dX6_digest_165 rfl (lv_at hl 2 rfl) ?_
                                refine lv_iload hx hb dX6_digest_166 (lv_at hl 3 rfl) ?_
                                refine ro_V S hkx (mX6_ofShim l (t := t) (w := it) (hP := hP) (hwf := hwf) (hr := hr) (ht := (by omega)) (hw := (by omega))) gX6_digest_X6_ofShim rfl idX6_ofShim ⟨Nat.le_of_ble_eq_true rfl, Nat.le_of_ble_eq_true rfl⟩ hP 0 rfl rfl rfl rfl hl.1 rfl (Nat.le_of_ble_eq_true rfl) dX6_digest_168 ⟨Nat.le_of_ble_eq_true rfl, Nat.le_of_ble_eq_true rfl⟩ (fun r_10 hr_10 => ?_)
                                subst hr_10
                                refine rol_S S hkx (mX6_mix l (h := gt) (v := (Z (11 + it) t))) gX6_digest_X6_mix rfl idX6_mix.2 ⟨Nat.le_of_ble_eq_true rfl, Nat.le_of_ble_eq_true rfl⟩ rfl hl.1 rfl (Nat.le_of_ble_eq_true rfl) dX6_digest_171 ⟨Nat.le_of_ble_eq_true rfl, Nat.le_of_ble_eq_true rfl⟩ (fun r_11 hr_11 => ?_)
                                subst hr_11
                                refine lv_lstore_n (lv' := [(1, .long (mx gt (Z (11 + it) t))), (0, .ref (r 0)), (3, .int (nI t)), (4, .int (nI it))]) hx hb dX6_digest_174 rfl hl (by decide) rfl (fun ls hl => ?_)
                                refine lv_iinc (v := (nI (it + 1))) (lv' := [(4, .int (nI (it + 1))), (1, .long (mx gt (Z (11 + it) t))), (0, .ref (r 0)), (3, .int (nI t))]) hx hb dX6_digest_175 hl (k := 3) rfl (nI_inc it) (by decide) rfl (fun ls hl => ?_)
                                refine lv_goto (tgt := 157) hx hb dX6_digest_178 (by decide) ?_
                                exact ih157 (it + 1) (mx gt (Z (11 + it) t)) (by omega) (by omega) (by rw [hgt]; rfl) _ _ hP hD hS _ (lv_sub hl [2, 1, 3, 0] rfl)
                          exact L157 _ 0 ht (Nat.lt_succ_self _) (by omega) (by exact hht) _ _ hP hD hS _ (lv_sub hl [1, 2, 3, 0] rfl)
                    exact L144 _ 0 hu (Nat.lt_succ_self _) (by omega) (by rw [hhu, show u = N 2 by omega]; rfl) _ _ hP hD hS _ (lv_sub hl [1, 2, 0] rfl)
                  · replace c_4 := cn_nle (a := (N 2)) (b := u) (by omega) (by omega) c_4
                    refine lv_iconst (v := 0) hx hb dX6_digest_97 (by decide) ?_
                    refine lv_istore (lv' := [(4, .int 0), (0, .ref (r 0)), (1, .long hu), (3, .int (nI u))]) hx hb dX6_digest_98 hl (by decide) rfl (fun ls hl => ?_)
                    have L100 : ∀ (fuel : Nat) (iu : Nat) (gu : Int64), 6 - iu < fuel → iu ≤ 6 → gu = mxL (fun w => Z (5 + w) u) (dg3 N Z n1 u) iu → ∀ (H : Heap) (locs : List Loc), va_P G vwCl (wMod T r mm pp xx 0 sv n1 ac ea le v1 v2 v3 v4 v5) H → va_D A (wMod T r mm pp xx 0 sv n1 ac ea le v1 v2 v3 v4 v5) → va_S A H0 H locs → ∀ ls : Array Slot, lv_has ls 5 [(0, .ref (r 0)), (1, .long gu), (3, .int (nI u)), (4, .int (nI iu))] → W p l e (rmo 7 166) s m ([.ref (r 0)] : List Value).toArray below meth c H locs 0 0 Q (F0 m 100 ls []) := by
                      intro fuel
                      induction fuel with
                      | zero => intro iu gu hm; exact absurd hm (Nat.not_lt_zero _)
                      | succ fuel ih100 =>
                        intro iu gu hm100 hiu hgu H locs hP hD hS ls hl
                        refine lv_iload hx hb dX6_digest_100 (lv_at hl 3 rfl) ?_
                        refine lv_bipush (v := 6) hx hb dX6_digest_102 (by decide) ?_
                        refine lv_icmp_ge (tgt := 125) hx hb dX6_digest_104 (by decide) (fun c_12 => ?_) (fun c_12 => ?_)
                        · replace c_12 := cn_le (a := 6) (b := iu) (by omega) (by omega) c_12
                          refine lv_lload_n hx hb dX6_digest_125 rfl (lv_at hl 1 rfl) ?_
                          refine lv_aload_n hx hb dX6_digest_126 rfl (lv_at hl 0 rfl) ?_
                          refine lv_iload_n hx hb dX6_digest_127 rfl (lv_at hl 2 rfl) ?_
                          refine lv_iconst (v := 0) hx hb dX6_digest_128 (by decide) ?_
                          refine ro_V S hkx (mX6_firstOf l (u := u) (f := 0) (hP := hP) (hwf := hwf) (hr := hr) (hu := (by omega)) (hf9 := (by omega))) gX6_digest_X6_firstOf rfl idX6_firstOf ⟨Nat.le_of_ble_eq_true rfl, Nat.le_of_ble_eq_true rfl⟩ hP 0 rfl rfl rfl rfl hl.1 rfl (Nat.le_of_ble_eq_true rfl) dX6_digest_129 ⟨Nat.le_of_ble_eq_true rfl, Nat.le_of_ble_eq_true rfl⟩ (fun r_13 hr_13 => ?_)
                          subst hr_13
                          refine rol_S S hkx (mX6_mix l (h := gu) (v := (fstD (uuB N Z u) 0 (1000 - 0)))) gX6_digest_X6_mix rfl idX6_mix.2 ⟨Nat.le_of_ble_eq_true rfl, Nat.le_of_ble_eq_true rfl⟩ rfl hl.1 rfl (Nat.le_of_ble_eq_true rfl) dX6_digest_132 ⟨Nat.le_of_ble_eq_true rfl, Nat.le_of_ble_eq_true rfl⟩ (fun r_14 hr_14 => ?_)
                          subst hr_14
                          refine lv_lstore_n (lv' := [(1, .long (mx gu (fstD (uuB N Z u) 0 (1000 - 0)))), (0, .ref (r 0)), (3, .int (nI u)), (4, .int (nI iu))]) hx hb dX6_digest_135 rfl hl (by decide) rfl (fun ls hl => ?_)
                          refine lv_iinc (v := (nI (u + 1))) (lv' := [(3, .int (nI (u + 1))), (1, .long (mx gu (fstD (uuB N Z u) 0 (1000 - 0)))), (0, .ref (r 0)), (4, .int (nI iu))]) hx hb dX6_digest_136 hl (k := 2) rfl (nI_inc u) (by decide) rfl (fun ls hl => ?_)
                          refine lv_goto (tgt := 87) hx hb dX6_digest_139 (by decide) ?_
                          exact ih87 (u + 1) (mx gu (fstD (uuB N Z u) 0 (1000 - 0))) (by omega) (by omega) (by rw [hgu, show iu = 6 by omega]; rfl) _ _ hP hD hS _ (lv_sub hl [2, 1, 0] rfl)
                        · replace c_12 := cn_nle (a := 6) (b := iu) (by omega) (by omega) c_12
                          refine lv_lload_n hx hb dX6_digest_107 rfl (lv_at hl 1 rfl) ?_
                          refine lv_aload_n hx hb dX6_digest_108 rfl (lv_at hl 0 rfl) ?_
                          refine lv_iload_n hx hb dX6_digest_109 rfl (lv_at hl 2 rfl) ?_
                          refine lv_iload hx hb dX6_digest_110 (lv_at hl 3 rfl) ?_
                          refine ro_V S hkx (mX6_ofUser l (u := u) (w := iu) (hP := hP) (hwf := hwf) (hr := hr) (hu := (by omega)) (hw := (by omega))) gX6_digest_X6_ofUser rfl idX6_ofUser ⟨Nat.le_of_ble_eq_true rfl, Nat.le_of_ble_eq_true rfl⟩ hP 0 rfl rfl rfl rfl hl.1 rfl (Nat.le_of_ble_eq_true rfl) dX6_digest_112 ⟨Nat.le_of_ble_eq_true rfl, Nat.le_of_ble_eq_true rfl⟩ (fun r_15 hr_15 => ?_)
                          subst hr_15
                          refine rol_S S hkx (mX6_mix l (h := gu) (v := (Z (5 + iu) u))) gX6_digest_X6_mix rfl idX6_mix.2 ⟨Nat.le_of_ble_eq_true rfl, Nat.le_of_ble_eq_true rfl⟩ rfl hl.1 rfl (Nat.le_of_ble_eq_true rfl) dX6_digest_115 ⟨Nat.le_of_ble_eq_true rfl, Nat.le_of_ble_eq_true rfl⟩ (fun r_16 hr_16 => ?_)
                          subst hr_16
                          refine lv_lstore_n (lv' := [(1, .long (mx gu (Z (5 + iu) u))), (0, .ref (r 0)), (3, .int (nI u)), (4, .int (nI iu))]) hx hb dX6_digest_118 rfl hl (by decide) rfl (fun ls hl => ?_)
                          refine lv_iinc (v := (nI (iu + 1))) (lv' := [(4, .int (nI (iu + 1))), (1, .long (mx gu (Z (5 + iu) u))), (0, .ref (r 0)), (3, .int (nI u))]) hx hb dX6_digest_119 hl (k := 3) rfl (nI_inc iu) (by decide) rfl (fun ls hl => ?_)
                          refine lv_goto (tgt := 100) hx hb dX6_digest_122 (by decide) ?_
                          exact ih100 (iu + 1) (mx gu (Z (5 + iu) u)) (by omega) (by omega) (by rw [hgu]; rfl) _ _ hP hD hS _ (lv_sub hl [2, 1, 3, 0] rfl)
                    exact L100 _ 0 hu (Nat.lt_succ_self _) (by omega) (by exact hhu) _ _ hP hD hS _ (lv_sub hl [1, 2, 3, 0] rfl)
              exact L87 _ 0 hv (Nat.lt_succ_self _) (by omega) (by rw [hhv, show v = N 0 by omega]; rfl) _ _ hP hD hS _ (lv_sub hl [1, 2, 0] rfl)
            · replace c_3 := cn_nle (a := (N 0)) (b := v) (by omega) (by omega) c_3
              refine lv_iconst (v := 0) hx hb dX6_digest_52 (by decide) ?_
              refine lv_istore (lv' := [(4, .int 0), (0, .ref (r 0)), (1, .long hv), (3, .int (nI v))]) hx hb dX6_digest_53 hl (by decide) rfl (fun ls hl => ?_)
              have L55 : ∀ (fuel : Nat) (iv : Nat) (gv : Int64), 5 - iv < fuel → iv ≤ 5 → gv = mxL (ofV N Z v) (dg2 N Z n1 v) iv → ∀ (H : Heap) (locs : List Loc), va_P G vwCl (wMod T r mm pp xx 0 sv n1 ac ea le v1 v2 v3 v4 v5) H → va_D A (wMod T r mm pp xx 0 sv n1 ac ea le v1 v2 v3 v4 v5) → va_S A H0 H locs → ∀ ls : Array Slot, lv_has ls 5 [(0, .ref (r 0)), (1, .long gv), (3, .int (nI v)), (4, .int (nI iv))] → W p l e (rmo 7 166) s m ([.ref (r 0)] : List Value).toArray below meth c H locs 0 0 Q (F0 m 55 ls []) := by
                intro fuel
                induction fuel with
                | zero => intro iv gv hm; exact absurd hm (Nat.not_lt_zero _)
                | succ fuel ih55 =>
                  intro iv gv hm55 hiv hgv H locs hP hD hS ls hl
                  refine lv_iload hx hb dX6_digest_55 (lv_at hl 3 rfl) ?_
                  refine lv_iconst (v := 5) hx hb dX6_digest_57 (by decide) ?_
                  refine lv_icmp_ge (tgt := 79) hx hb dX6_digest_58 (by decide) (fun c_17 => ?_) (fun c_17 => ?_)
                  · replace c_17 := cn_le (a := 5) (b := iv) (by omega) (by omega) c_17
                    refine lv_iinc (v := (nI (v + 1))) (lv' := [(3, .int (nI (v + 1))), (0, .ref (r 0)), (1, .long gv), (4, .int (nI iv))]) hx hb dX6_digest_79 hl (k := 2) rfl (nI_inc v) (by decide) rfl (fun ls hl => ?_)
                    refine lv_goto (tgt := 42) hx hb dX6_digest_82 (by decide) ?_
                    exact ih42 (v + 1) gv (by omega) (by omega) (by rw [hgv, show iv = 5 by omega]; rfl) _ _ hP hD hS _ (lv_sub hl [1, 2, 0] rfl)
                  · replace c_17 := cn_nle (a := 5) (b := iv) (by omega) (by omega) c_17
                    refine lv_lload_n hx hb dX6_digest_61 rfl (lv_at hl 1 rfl) ?_
                    refine lv_aload_n hx hb dX6_digest_62 rfl (lv_at hl 0 rfl) ?_
                    refine lv_iload_n hx hb dX6_digest_63 rfl (lv_at hl 2 rfl) ?_
                    refine lv_iload hx hb dX6_digest_64 (lv_at hl 3 rfl) ?_
                    refine ro_V S hkx (mX6_toldVersion l (v := v) (w := iv) (hP := hP) (hwf := hwf) (hr := hr) (hv := (by omega)) (hw := (by omega))) gX6_digest_X6_toldVersion rfl idX6_toldVersion ⟨Nat.le_of_ble_eq_true rfl, Nat.le_of_ble_eq_true rfl⟩ hP 0 rfl rfl rfl rfl hl.1 rfl (Nat.le_of_ble_eq_true rfl) dX6_digest_66 ⟨Nat.le_of_ble_eq_true rfl, Nat.le_of_ble_eq_true rfl⟩ (fun r_18 hr_18 => ?_)
                    subst hr_18
                    refine rol_S S hkx (mX6_mix l (h := gv) (v := (ofV N Z v iv))) gX6_digest_X6_mix rfl idX6_mix.2 ⟨Nat.le_of_ble_eq_true rfl, Nat.le_of_ble_eq_true rfl⟩ rfl hl.1 rfl (Nat.le_of_ble_eq_true rfl) dX6_digest_69 ⟨Nat.le_of_ble_eq_true rfl, Nat.le_of_ble_eq_true rfl⟩ (fun r_19 hr_19 => ?_)
                    subst hr_19
                    refine lv_lstore_n (lv' := [(1, .long (mx gv (ofV N Z v iv))), (0, .ref (r 0)), (3, .int (nI v)), (4, .int (nI iv))]) hx hb dX6_digest_72 rfl hl (by decide) rfl (fun ls hl => ?_)
                    refine lv_iinc (v := (nI (iv + 1))) (lv' := [(4, .int (nI (iv + 1))), (1, .long (mx gv (ofV N Z v iv))), (0, .ref (r 0)), (3, .int (nI v))]) hx hb dX6_digest_73 hl (k := 3) rfl (nI_inc iv) (by decide) rfl (fun ls hl => ?_)
                    refine lv_goto (tgt := 55) hx hb dX6_digest_76 (by decide) ?_
                    exact ih55 (iv + 1) (mx gv (ofV N Z v iv)) (by omega) (by omega) (by rw [hgv]; rfl) _ _ hP hD hS _ (lv_sub hl [2, 1, 3, 0] rfl)
              exact L55 _ 0 hv (Nat.lt_succ_self _) (by omega) (by exact hhv) _ _ hP hD hS _ (lv_sub hl [1, 2, 3, 0] rfl)
        exact L42 _ 0 hk (Nat.lt_succ_self _) (by omega) (by rw [hhk, show k = 8 by omega]; rfl) _ _ hP hD hS _ (lv_sub hl [1, 2, 0] rfl)
      · replace c_2 := cn_nle (a := 8) (b := k) (by omega) (by omega) c_2
        refine lv_lload_n hx hb dX6_digest_24 rfl (lv_at hl 1 rfl) ?_
        refine lv_aload_n hx hb dX6_digest_25 rfl (lv_at hl 0 rfl) ?_
        refine lv_iload_n hx hb dX6_digest_26 rfl (lv_at hl 2 rfl) ?_
        refine ro_V S hkx (mX6_valueOf l (w := k) (hP := hP) (hwf := hwf) (hr := hr) (hw := (by omega))) gX6_digest_X6_valueOf rfl idX6_valueOf ⟨Nat.le_of_ble_eq_true rfl, Nat.le_of_ble_eq_true rfl⟩ hP 0 rfl rfl rfl rfl hl.1 rfl (Nat.le_of_ble_eq_true rfl) dX6_digest_27 ⟨Nat.le_of_ble_eq_true rfl, Nat.le_of_ble_eq_true rfl⟩ (fun r_20 hr_20 => ?_)
        subst hr_20
        refine rol_S S hkx (mX6_mix l (h := hk) (v := (nmb N Z k))) gX6_digest_X6_mix rfl idX6_mix.2 ⟨Nat.le_of_ble_eq_true rfl, Nat.le_of_ble_eq_true rfl⟩ rfl hl.1 rfl (Nat.le_of_ble_eq_true rfl) dX6_digest_30 ⟨Nat.le_of_ble_eq_true rfl, Nat.le_of_ble_eq_true rfl⟩ (fun r_21 hr_21 => ?_)
        subst hr_21
        refine lv_lstore_n (lv' := [(1, .long (mx hk (nmb N Z k))), (0, .ref (r 0)), (3, .int (nI k))]) hx hb dX6_digest_33 rfl hl (by decide) rfl (fun ls hl => ?_)
        refine lv_iinc (v := (nI (k + 1))) (lv' := [(3, .int (nI (k + 1))), (1, .long (mx hk (nmb N Z k))), (0, .ref (r 0))]) hx hb dX6_digest_34 hl (k := 2) rfl (nI_inc k) (by decide) rfl (fun ls hl => ?_)
        refine lv_goto (tgt := 18) hx hb dX6_digest_37 (by decide) ?_
        exact ih18 (k + 1) (mx hk (nmb N Z k)) (by omega) (by omega) (by rw [hhk]; rfl) _ _ hP hD hS _ (lv_sub hl [2, 1, 0] rfl)
  exact L18 _ 0 (mx 3733 (nI n1)) (Nat.lt_succ_self _) (by omega) (by rfl) _ _ hP hD hS _ (lv_sub hl [2, 1, 0] rfl)
