theorem idX5_contains : yX5_contains.cls = RX5 ∧ yX5_contains.cls ≠ "java/lang/invoke/MethodHandle" ∧ yX5_contains.cls ≠ "java/lang/invoke/VarHandle" ∧ (parseMethodDescriptor yX5_contains.desc).map (fun d => d.parameters.length) = some 2 := by decide +kernel

set_option maxHeartbeats 4000000 in
set_option maxRecDepth 100000 in
theorem mX5_contains (l : Launch) {G : va_G} {T : Nat → ClassId} {H : Heap} {x : Int32} {k : Int32}  : ro l yX5_contains wsX5_contains 0 0 [.int x, .int k] G T H (fun r => r = bI (cnt1 x k)) := by
  refine ro_of (cc := cX5_contains) (maxL := 2) (ret := .boolean) (own := RX5) (by decide +kernel) rfl rfl (Nat.le_of_ble_eq_true rfl) (fun v h => bI_nar h) ?_
  intro p e s m below meth c Q ls S hkx hl hret
  obtain ⟨hx, hb, hml, hown, hts⟩ := id S
  have hl : lv_has ls 2 [(0, .int x), (1, .int k)] := hl
  refine lv_iload_n hx hb dX5_contains_0 rfl (lv_at hl 0 rfl) ?_
  refine lv_iload_n hx hb dX5_contains_1 rfl (lv_at hl 1 rfl) ?_
  refine lv_ishr hx hb dX5_contains_2 ?_
  refine lv_iconst (v := 1) hx hb dX5_contains_3 (by decide) ?_
  refine lv_iand hx hb dX5_contains_4 ?_
  refine lv_if_eq (tgt := 12) hx hb dX5_contains_5 (by decide) (fun c_1 => ?_) (fun c_1 => ?_)
  · skip
    refine lv_iconst (v := 0) hx hb dX5_contains_12 (by decide) ?_
    exact hret _ _ _ (show 0 = bI (cnt1 x k) from by
        clear hret hl; simp [bI, cnt1, *]) dX5_contains_13
  · skip
    refine lv_iconst (v := 1) hx hb dX5_contains_8 (by decide) ?_
    refine lv_goto (tgt := 13) hx hb dX5_contains_9 (by decide) ?_
    exact hret _ _ _ (show 1 = bI (cnt1 x k) from by
        clear hret hl; simp [bI, cnt1, *]) dX5_contains_13

theorem idX5_isThere : yX5_isThere.cls = RX5 ∧ yX5_isThere.cls ≠ "java/lang/invoke/MethodHandle" ∧ yX5_isThere.cls ≠ "java/lang/invoke/VarHandle" ∧ (parseMethodDescriptor yX5_isThere.desc).map (fun d => d.parameters.length) = some 2 := by decide +kernel

set_option maxHeartbeats 4000000 in
set_option maxRecDepth 100000 in
theorem mX5_isThere (l : Launch) {G : va_G} {T : Nat → ClassId} {H : Heap} {i : Int32} {n : Int32}  : ro l yX5_isThere wsX5_isThere 0 0 [.int i, .int n] G T H (fun r => r = bI (isT i n)) := by
  refine ro_of (cc := cX5_isThere) (maxL := 2) (ret := .boolean) (own := RX5) (by decide +kernel) rfl rfl (Nat.le_of_ble_eq_true rfl) (fun v h => bI_nar h) ?_
  intro p e s m below meth c Q ls S hkx hl hret
  obtain ⟨hx, hb, hml, hown, hts⟩ := id S
  have hl : lv_has ls 2 [(0, .int i), (1, .int n)] := hl
  refine lv_iload_n hx hb dX5_isThere_0 rfl (lv_at hl 0 rfl) ?_
  refine lv_if_lt (tgt := 13) hx hb dX5_isThere_1 (by decide) (fun c_1 => ?_) (fun c_1 => ?_)
  · have c_1n := Int32.not_le.mpr c_1
    refine lv_iconst (v := 0) hx hb dX5_isThere_13 (by decide) ?_
    exact hret _ _ _ (show 0 = bI (isT i n) from by
        clear hret hl; refine bI_0 ?_; rw [Bool.eq_false_iff]; intro h; have z0 : Int32.toInt 0 = 0 := rfl;simp only [isT, Bool.and_eq_true, decide_eq_true_eq, i3lt, i3le, i3eq] at *;  omega) dX5_isThere_14
  · have c_1n := Int32.not_lt.mp c_1
    refine lv_iload_n hx hb dX5_isThere_4 rfl (lv_at hl 0 rfl) ?_
    refine lv_iload_n hx hb dX5_isThere_5 rfl (lv_at hl 1 rfl) ?_
    refine lv_icmp_ge (tgt := 13) hx hb dX5_isThere_6 (by decide) (fun c_2 => ?_) (fun c_2 => ?_)
    · have c_2n := Int32.not_lt.mpr c_2
      refine lv_iconst (v := 0) hx hb dX5_isThere_13 (by decide) ?_
      exact hret _ _ _ (show 0 = bI (isT i n) from by
          clear hret hl; refine bI_0 ?_; rw [Bool.eq_false_iff]; intro h; have z0 : Int32.toInt 0 = 0 := rfl;simp only [isT, Bool.and_eq_true, decide_eq_true_eq, i3lt, i3le, i3eq] at *;  omega) dX5_isThere_14
    · have c_2n := Int32.not_le.mp c_2
      refine lv_iconst (v := 1) hx hb dX5_isThere_9 (by decide) ?_
      refine lv_goto (tgt := 14) hx hb dX5_isThere_10 (by decide) ?_
      exact hret _ _ _ (show 1 = bI (isT i n) from by
          clear hret hl; refine bI_1 ?_; have z0 : Int32.toInt 0 = 0 := rfl;simp only [isT, Bool.and_eq_true, decide_eq_true_eq, i3lt, i3le, i3eq] at *;  omega) dX5_isThere_14

theorem idX5_isWithin : yX5_isWithin.cls = RX5 ∧ yX5_isWithin.cls ≠ "java/lang/invoke/MethodHandle" ∧ yX5_isWithin.cls ≠ "java/lang/invoke/VarHandle" ∧ (parseMethodDescriptor yX5_isWithin.desc).map (fun d => d.parameters.length) = some 3 := by decide +kernel

set_option maxHeartbeats 4000000 in
set_option maxRecDepth 100000 in
theorem mX5_isWithin (l : Launch) {G : va_G} {T : Nat → ClassId} {H : Heap} {v : Int32} {x : Int32} {z : Int32}  : ro l yX5_isWithin wsX5_isWithin 0 0 [.int v, .int x, .int z] G T H (fun r => r = bI (isW v x z)) := by
  refine ro_of (cc := cX5_isWithin) (maxL := 3) (ret := .boolean) (own := RX5) (by decide +kernel) rfl rfl (Nat.le_of_ble_eq_true rfl) (fun v h => bI_nar h) ?_
  intro p e s m below meth c Q ls S hkx hl hret
  obtain ⟨hx, hb, hml, hown, hts⟩ := id S
  have hl : lv_has ls 3 [(0, .int v), (1, .int x), (2, .int z)] := hl
  refine lv_iload_n hx hb dX5_isWithin_0 rfl (lv_at hl 0 rfl) ?_
  refine lv_iload_n hx hb dX5_isWithin_1 rfl (lv_at hl 1 rfl) ?_
  refine lv_icmp_lt (tgt := 14) hx hb dX5_isWithin_2 (by decide) (fun c_1 => ?_) (fun c_1 => ?_)
  · have c_1n := Int32.not_le.mpr c_1
    refine lv_iconst (v := 0) hx hb dX5_isWithin_14 (by decide) ?_
    exact hret _ _ _ (show 0 = bI (isW v x z) from by
        clear hret hl; refine bI_0 ?_; rw [Bool.eq_false_iff]; intro h; have z0 : Int32.toInt 0 = 0 := rfl;simp only [isW, Bool.and_eq_true, decide_eq_true_eq, i3lt, i3le, i3eq] at *;  omega) dX5_isWithin_15
  · have c_1n := Int32.not_lt.mp c_1
    refine lv_iload_n hx hb dX5_isWithin_5 rfl (lv_at hl 0 rfl) ?_
    refine lv_iload_n hx hb dX5_isWithin_6 rfl (lv_at hl 2 rfl) ?_
    refine lv_icmp_gt (tgt := 14) hx hb dX5_isWithin_7 (by decide) (fun c_2 => ?_) (fun c_2 => ?_)
    · have c_2n := Int32.not_le.mpr c_2
      refine lv_iconst (v := 0) hx hb dX5_isWithin_14 (by decide) ?_
      exact hret _ _ _ (show 0 = bI (isW v x z) from by
          clear hret hl; refine bI_0 ?_; rw [Bool.eq_false_iff]; intro h; have z0 : Int32.toInt 0 = 0 := rfl;simp only [isW, Bool.and_eq_true, decide_eq_true_eq, i3lt, i3le, i3eq] at *;  omega) dX5_isWithin_15
    · have c_2n := Int32.not_lt.mp c_2
      refine lv_iconst (v := 1) hx hb dX5_isWithin_10 (by decide) ?_
      refine lv_goto (tgt := 15) hx hb dX5_isWithin_11 (by decide) ?_
      exact hret _ _ _ (show 1 = bI (isW v x z) from by
          clear hret hl; refine bI_1 ?_; have z0 : Int32.toInt 0 = 0 := rfl;simp only [isW, Bool.and_eq_true, decide_eq_true_eq, i3lt, i3le, i3eq] at *;  omega) dX5_isWithin_15

theorem idX2_isActive : yX2_isActive.cls = RX2 ∧ yX2_isActive.cls ≠ "java/lang/invoke/MethodHandle" ∧ yX2_isActive.cls ≠ "java/lang/invoke/VarHandle" ∧ (parseMethodDescriptor yX2_isActive.desc).map (fun d => d.parameters.length) = some 3 := by decide +kernel

set_option maxHeartbeats 4000000 in
set_option maxRecDepth 100000 in
theorem mX2_isActive (l : Launch) {G : va_G} {T : Nat → ClassId} {H : Heap} {a : Nat → Nat} {N : Nat → Nat} {Z : Nat → Nat → Int32} {k : Nat} {x : Int32} {d : Int32} (hP : va_P G vwCl (wCal T a N Z) H) (hk : k < 12) : ro l yX2_isActive wsX2_isActive 0 0 [.ref (a 13), .int (nI k), .int x, .int d] G T H (fun r => r = bI (isAct Z k x d)) := by
  refine ro_of (cc := cX2_isActive) (maxL := 4) (ret := .boolean) (own := RX2) (by decide +kernel) rfl rfl (Nat.le_of_ble_eq_true rfl) (fun v h => bI_nar h) ?_
  intro p e s m below meth c Q ls S hkx hl hret
  obtain ⟨hx, hb, hml, hown, hts⟩ := id S
  have hl : lv_has ls 4 [(0, .ref (a 13)), (1, .int (nI k)), (2, .int x), (3, .int d)] := hl
  have k19 := hts (.fieldLink RX2 19 "SunsetDates$Shims" "version" "[I") (by decide +kernel)
  have iX2 : ∀ w ∈ wsX20, w ∈ wsX2_isActive := by decide +kernel
  have k22 := hts (.fieldLink RX2 22 "SunsetDates$Shims" "first" "[I") (by decide +kernel)
  have k25 := hts (.fieldLink RX2 25 "SunsetDates$Shims" "last" "[I") (by decide +kernel)
  refine lv_aload_n hx hb dX2_isActive_0 rfl (lv_at hl 0 rfl) ?_
  refine va_get (D := G) (ci := 2) (C := RX2) (T := TX2) (N := 6) hx hb hts iX2 hown hkx.1 hP 13 rfl rfl 2 (by decide) k19 (fun _ h9 => h9) rfl dX2_isActive_1 ?_
  refine lv_iload_n hx hb dX2_isActive_4 rfl (lv_at hl 1 rfl) ?_
  refine ia hx hb hkx hP 15 rfl k rfl (by omega) (by decide) dX2_isActive_5 ?_
  refine lv_iload_n hx hb dX2_isActive_6 rfl (lv_at hl 2 rfl) ?_
  refine lv_icmp_ne (tgt := 34) hx hb dX2_isActive_7 (by decide) (fun c_1 => ?_) (fun c_1 => ?_)
  · skip
    refine lv_iconst (v := 0) hx hb dX2_isActive_34 (by decide) ?_
    exact hret _ _ _ (show 0 = bI (isAct Z k x d) from by
        clear hret hl; refine bI_0 ?_; rw [Bool.eq_false_iff]; intro h; have z0 : Int32.toInt 0 = 0 := rfl;simp only [isAct, Bool.and_eq_true, decide_eq_true_eq, i3lt, i3le, i3eq] at *;  omega) dX2_isActive_35
  · skip
    refine lv_aload_n hx hb dX2_isActive_10 rfl (lv_at hl 0 rfl) ?_
    refine va_get (D := G) (ci := 2) (C := RX2) (T := TX2) (N := 6) hx hb hts iX2 hown hkx.1 hP 13 rfl rfl 3 (by decide) k22 (fun _ h9 => h9) rfl dX2_isActive_11 ?_
    refine lv_iload_n hx hb dX2_isActive_14 rfl (lv_at hl 1 rfl) ?_
    refine ia hx hb hkx hP 16 rfl k rfl (by omega) (by decide) dX2_isActive_15 ?_
    refine lv_iload_n hx hb dX2_isActive_16 rfl (lv_at hl 3 rfl) ?_
    refine lv_icmp_gt (tgt := 34) hx hb dX2_isActive_17 (by decide) (fun c_2 => ?_) (fun c_2 => ?_)
    · have c_2n := Int32.not_le.mpr c_2
      refine lv_iconst (v := 0) hx hb dX2_isActive_34 (by decide) ?_
      exact hret _ _ _ (show 0 = bI (isAct Z k x d) from by
          clear hret hl; refine bI_0 ?_; rw [Bool.eq_false_iff]; intro h; have z0 : Int32.toInt 0 = 0 := rfl;simp only [isAct, Bool.and_eq_true, decide_eq_true_eq, i3lt, i3le, i3eq] at *;  omega) dX2_isActive_35
    · have c_2n := Int32.not_lt.mp c_2
      refine lv_iload_n hx hb dX2_isActive_20 rfl (lv_at hl 3 rfl) ?_
      refine lv_aload_n hx hb dX2_isActive_21 rfl (lv_at hl 0 rfl) ?_
      refine va_get (D := G) (ci := 2) (C := RX2) (T := TX2) (N := 6) hx hb hts iX2 hown hkx.1 hP 13 rfl rfl 4 (by decide) k25 (fun _ h9 => h9) rfl dX2_isActive_22 ?_
      refine lv_iload_n hx hb dX2_isActive_25 rfl (lv_at hl 1 rfl) ?_
      refine ia hx hb hkx hP 17 rfl k rfl (by omega) (by decide) dX2_isActive_26 ?_
      refine lv_icmp_gt (tgt := 34) hx hb dX2_isActive_27 (by decide) (fun c_3 => ?_) (fun c_3 => ?_)
      · have c_3n := Int32.not_le.mpr c_3
        refine lv_iconst (v := 0) hx hb dX2_isActive_34 (by decide) ?_
        exact hret _ _ _ (show 0 = bI (isAct Z k x d) from by
            clear hret hl; refine bI_0 ?_; rw [Bool.eq_false_iff]; intro h; have z0 : Int32.toInt 0 = 0 := rfl;simp only [isAct, Bool.and_eq_true, decide_eq_true_eq, i3lt, i3le, i3eq] at *;  omega) dX2_isActive_35
      · have c_3n := Int32.not_lt.mp c_3
        refine lv_iconst (v := 1) hx hb dX2_isActive_30 (by decide) ?_
        refine lv_goto (tgt := 35) hx hb dX2_isActive_31 (by decide) ?_
        exact hret _ _ _ (show 1 = bI (isAct Z k x d) from by
            clear hret hl; refine bI_1 ?_; have z0 : Int32.toInt 0 = 0 := rfl;simp only [isAct, Bool.and_eq_true, decide_eq_true_eq, i3lt, i3le, i3eq] at *;  omega) dX2_isActive_35

theorem idX2_countFor : yX2_countFor.cls = RX2 ∧ yX2_countFor.cls ≠ "java/lang/invoke/MethodHandle" ∧ yX2_countFor.cls ≠ "java/lang/invoke/VarHandle" ∧ (parseMethodDescriptor yX2_countFor.desc).map (fun d => d.parameters.length) = some 1 := by decide +kernel

set_option maxHeartbeats 4000000 in
set_option maxRecDepth 100000 in
theorem mX2_countFor (l : Launch) {G : va_G} {T : Nat → ClassId} {H : Heap} {a : Nat → Nat} {N : Nat → Nat} {Z : Nat → Nat → Int32} {x : Int32} (hP : va_P G vwCl (wCal T a N Z) H) (hs : N 3 ≤ 12) : ro l yX2_countFor wsX2_countFor 0 0 [.ref (a 13), .int x] G T H (fun r => r = cntFor Z x (N 3)) := by
  refine ro_of (cc := cX2_countFor) (maxL := 4) (ret := .int) (own := RX2) (by decide +kernel) rfl rfl (Nat.le_of_ble_eq_true rfl) (fun v _ => vp_nar_int v) ?_
  intro p e s m below meth c Q ls S hkx hl hret
  obtain ⟨hx, hb, hml, hown, hts⟩ := id S
  have hl : lv_has ls 4 [(0, .ref (a 13)), (1, .int x)] := hl
  have k9 := hts (.fieldLink RX2 9 "SunsetDates$Shims" "count" "I") (by decide +kernel)
  have iX2 : ∀ w ∈ wsX20, w ∈ wsX2_countFor := by decide +kernel
  have k19 := hts (.fieldLink RX2 19 "SunsetDates$Shims" "version" "[I") (by decide +kernel)
  refine lv_iconst (v := 0) hx hb dX2_countFor_0 (by decide) ?_
  refine lv_istore_n (lv' := [(2, .int 0), (0, .ref (a 13)), (1, .int x)]) hx hb dX2_countFor_1 rfl hl (by decide) rfl (fun ls hl => ?_)
  refine lv_iconst (v := 0) hx hb dX2_countFor_2 (by decide) ?_
  refine lv_istore_n (lv' := [(3, .int 0), (2, .int 0), (0, .ref (a 13)), (1, .int x)]) hx hb dX2_countFor_3 rfl hl (by decide) rfl (fun ls hl => ?_)
  have L4 : ∀ (fuel : Nat) (k : Nat) (y : Int32), N 3 - k < fuel → k ≤ N 3 → y = cntFor Z x k → ∀ ls : Array Slot, lv_has ls 4 [(0, .ref (a 13)), (1, .int x), (2, .int y), (3, .int (nI k))] → W p l e (rmo 0 0) s m ([.ref (a 13), .int x] : List Value).toArray below meth c H [] 0 0 Q (F0 m 4 ls []) := by
    intro fuel
    induction fuel with
    | zero => intro k y hm; exact absurd hm (Nat.not_lt_zero _)
    | succ fuel ih4 =>
      intro k y hm4 hk hy ls hl
      refine lv_iload_n hx hb dX2_countFor_4 rfl (lv_at hl 3 rfl) ?_
      refine lv_aload_n hx hb dX2_countFor_5 rfl (lv_at hl 0 rfl) ?_
      refine va_get (D := G) (ci := 2) (C := RX2) (T := TX2) (N := 6) hx hb hts iX2 hown hkx.1 hP 13 rfl rfl 0 (by decide) k9 (fun _ h9 => h9) rfl dX2_countFor_6 ?_
      refine lv_icmp_ge (tgt := 31) hx hb dX2_countFor_9 (by decide) (fun c_1 => ?_) (fun c_1 => ?_)
      · replace c_1 := cn_le (a := (N 3)) (b := k) (by omega) (by omega) c_1
        refine lv_iload_n hx hb dX2_countFor_31 rfl (lv_at hl 2 rfl) ?_
        exact hret _ _ _ (show y = cntFor Z x (N 3) from by
            rw [hy, show k = N 3 by omega]) dX2_countFor_32
      · replace c_1 := cn_nle (a := (N 3)) (b := k) (by omega) (by omega) c_1
        refine lv_aload_n hx hb dX2_countFor_12 rfl (lv_at hl 0 rfl) ?_
        refine va_get (D := G) (ci := 2) (C := RX2) (T := TX2) (N := 6) hx hb hts iX2 hown hkx.1 hP 13 rfl rfl 2 (by decide) k19 (fun _ h9 => h9) rfl dX2_countFor_13 ?_
        refine lv_iload_n hx hb dX2_countFor_16 rfl (lv_at hl 3 rfl) ?_
        refine ia hx hb hkx hP 15 rfl k rfl (by omega) (by decide) dX2_countFor_17 ?_
        refine lv_iload_n hx hb dX2_countFor_18 rfl (lv_at hl 1 rfl) ?_
        refine lv_icmp_ne (tgt := 25) hx hb dX2_countFor_19 (by decide) (fun c_2 => ?_) (fun c_2 => ?_)
        · skip
          refine lv_iinc (v := (nI (k + 1))) (lv' := [(3, .int (nI (k + 1))), (0, .ref (a 13)), (1, .int x), (2, .int y)]) hx hb dX2_countFor_25 hl (k := 3) rfl (nI_inc k) (by decide) rfl (fun ls hl => ?_)
          refine lv_goto (tgt := 4) hx hb dX2_countFor_28 (by decide) ?_
          exact ih4 (k + 1) y (by omega) (by omega) (by simp [cntFor, hy, *]) _ (lv_sub hl [1, 2, 3, 0] rfl)
        · skip
          refine lv_iinc (v := (y + 1)) (lv' := [(2, .int (y + 1)), (0, .ref (a 13)), (1, .int x), (3, .int (nI k))]) hx hb dX2_countFor_22 hl (k := 2) rfl rfl (by decide) rfl (fun ls hl => ?_)
          refine lv_iinc (v := (nI (k + 1))) (lv' := [(3, .int (nI (k + 1))), (2, .int (y + 1)), (0, .ref (a 13)), (1, .int x)]) hx hb dX2_countFor_25 hl (k := 3) rfl (nI_inc k) (by decide) rfl (fun ls hl => ?_)
          refine lv_goto (tgt := 4) hx hb dX2_countFor_28 (by decide) ?_
          exact ih4 (k + 1) (y + 1) (by omega) (by omega) (by simp [cntFor, hy, *]) _ (lv_sub hl [2, 3, 1, 0] rfl)
  exact L4 _ 0 0 (Nat.lt_succ_self _) (by omega) (by rfl) _ (lv_sub hl [2, 3, 1, 0] rfl)
