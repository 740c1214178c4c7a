/-! my kit, 8: methods that answer on a heap that they leave as it is, given facts of the state; a String constant and what the JDK answers of it -/
section STR
/-- a fact of the state that stays when classes grow warm -/
def stb (P : State → Prop) : Prop := (∀ u U : State, U.vm = u.vm → P u → P U) ∧ ∀ s U : State, s.WarmedH U.vm → P s → P U
abbrev rg (l : Launch) (y : MethodName) (ws : List Cond) (fr lc : Nat) (as : List Value) (H : Heap) (P : State → Prop) (Post : Option Value → Prop) : Prop :=
  Met l y ws (rmo fr lc) (va_Pc as (fun U => U.heap = H ∧ P U)) (rxQ Post) 0 0 (fun _ => False)
variable {l : Launch} {H : Heap} {P : State → Prop}
theorem rg_of {y : MethodName} {ws ws' : List Cond} {fr lc : Nat} {as : List Value} {Post : Option Value → Prop} {cc : ByteArray} {maxL : Nat} {ret : Option FieldType} {own : String}
    (hy : plainName y.cls = true) (hw : ws = Cond.code y cc maxL ret :: ws') (hown : y.cls = own) (hle : (lg_sl as).length ≤ maxL)
    (body : ∀ (p : Program) (e : Env) (s : State) (m : MethodId) (below : List Frame) (meth : Method) (c : Code) (Q : State → Prop) (ls : Array Slot), s.heap = H →
      CallFix p m c cc maxL s as.toArray ws own → P s → lv_has ls maxL (lv_args 0 as) →
      (∀ (v : Int32) (ty : FieldType) (pc : Nat) (ls : Array Slot), ret = some ty → narrow ty (.int v) = .int v → Post (some (.int v)) → decode cc pc = .ok (.ireturn, 1) → W p l e (rmo fr lc) s m as.toArray below meth c H [] 0 0 Q (F0 m pc ls [.int v])) →
      (∀ (a pc : Nat) (n : String) (ls : Array Slot), ret = some (.object n) → Post (some (.ref a)) → decode cc pc = .ok (.areturn, 1) → W p l e (rmo fr lc) s m as.toArray below meth c H [] 0 0 Q (F0 m pc ls [.ref a])) →
      (∀ (pc : Nat) (ls : Array Slot), ret = none → Post none → decode cc pc = .ok (.return_, 1) → W p l e (rmo fr lc) s m as.toArray below meth c H [] 0 0 Q (F0 m pc ls [])) →
      W p l e (rmo fr lc) s m as.toArray below meth c H [] 0 0 Q (F0 m 0 ls [])) : rg l y ws fr lc as H P Post := by
  refine Met.ofW hy hw ?_
  intro p e s m args below meth c s₁ B hml hv
  obtain ⟨rfl, hH, hk⟩ := hv
  subst hH
  have hts := atoms_spec (ws := ws) B.pre
  have ho : s.vm.findClass own = some m.cls := hown ▸ findClass_of_methodNamed B.named
  have hl := lv_entry as hle
  rw [lg_entry_eq]
  refine body p e s m below meth c _ _ rfl ⟨B.exec, B.bytes, hml, ho, hts⟩ hk hl ?_ ?_ ?_
  · intro v ty pc ls hr hn hp hd
    exact W.zret B.exec B.bytes (B.returns.trans hr) hn (fun t ht _ => ⟨_, rfl, hp, ht⟩) (fun _ h => by cases h) hd B.notSynchronized
  · intro a pc n ls hr hp hd
    exact W.aret B.exec B.bytes (B.returns.trans hr) (Or.inl ⟨n, rfl⟩) (Or.inr ⟨a, rfl⟩) (fun t ht _ => ⟨_, rfl, hp, ht⟩) (fun _ h => by cases h) hd B.notSynchronized
  · intro pc ls hr hp hd
    exact W.vret B.exec B.bytes (B.returns.trans hr) (fun t ht _ => ⟨_, rfl, hp, ht⟩) (fun _ h => by cases h) hd B.notSynchronized
section RGC
variable {p : Program} {e : Env} {R : Room} {s : State} {m : MethodId} {args : Array Value} {below : List Frame} {meth : Method} {c : Code} {locs : List Loc} {cells slots : Nat} {Q : State → Prop}
variable {y : MethodName} {bytes cc : ByteArray} {maxL nL n index fr lc pc : Nat} {ret : Option FieldType} {ws ws' : List Cond} {Post : Option Value → Prop} {Ts : List Cond} {own C : String} {b : Addr} {As rest st : List Value} {ls : Array Slot}
theorem rg_k {a : Array Value} (hr : va_Run p l e R s m args below meth c H locs cells slots 0 0 (F0 m pc ls st) rest (rxQ Post a) (fun _ => False))
    (kk : ∀ v : Option Value, Post v → W p l e R s m args below meth c H locs cells slots Q (F0 m (pc + 3) ls (v.toList ++ rest))) : W p l e R s m args below meth c H locs cells slots Q (F0 m pc ls st) := by
  intro Z hZ X
  obtain ⟨v, st₀, t, T', L, g0, X', hL, e1, -, ⟨v2, hv, hp2, hh⟩, st⟩ := hr Z hZ X
  cases hv
  obtain ⟨t2, a1, b1⟩ := kk v hp2 T' (by rw [e1, hh, g0]) (Stand.forget X' (fun q h => (hL q h).elim))
  exact ⟨t2, st t2 a1, b1⟩
theorem rg_V (S : CallFix p m c cc nL s args Ts own) (hb : stb P) (hp : P s) (hM : rg l y ws fr lc (.ref b :: As) H P Post)
    (hT : GoodIn Ts (wsV own index C y ws)) (hw : ws = Cond.code y bytes maxL ret :: ws')
    (hd : y.cls = C ∧ y.cls ≠ "java/lang/invoke/MethodHandle" ∧ y.cls ≠ "java/lang/invoke/VarHandle" ∧ (parseMethodDescriptor y.desc).map (fun d => d.parameters.length) = some n) (hR : fr + 1 ≤ R.frames ∧ 8 + (maxL + 11) + lc ≤ R.locals)
    (hrc : ∃ cell : Cell, H[b]? = some cell ∧ cell.vm.isStatics = false ∧ s.vm.findClass C = some cell.cls)
    (hn : As.length = n) (hl : ls.size = nL) (hst : st = As.reverse ++ .ref b :: rest) (hcat : (rest.map fun v => v.category).sum ≤ 8) (hdg : decode cc pc = .ok (.invokevirtual index, 3)) (hf : cells ≤ R.cells ∧ slots ≤ R.slots)
    (kk : ∀ v : Option Value, Post v → W p l e R s m args below meth c H locs cells slots Q (F0 m (pc + 3) ls (v.toList ++ rest))) : W p l e R s m args below meth c H locs cells slots Q (F0 m pc ls st) := by
  subst hst
  have h0 : 2 * (F0 m pc ls (As.reverse ++ .ref b :: rest)).monitorRoom = 0 := rfl
  exact rg_k (va_runV (e := e) (below := below) (meth := meth) (H := H) (locs := locs) (cells := cells) (slots := slots) (rest := rest) (g := F0 m pc ls (As.reverse ++ .ref b :: rest)) S hM (cwV n S.2.2.2.2 hT hw rfl rfl hd hR) ⟨fun a9 u9 g9 k9 q => ⟨q.1, q.2.1, hb.1 u9 (u9.calling g9 k9 a9) rfl q.2.2⟩, hrc, fun U hU hW => ⟨rfl, hU, hb.2 _ _ hW hp⟩⟩ rfl hn hl rfl (by omega) hdg hf) kk
theorem rg_S (S : CallFix p m c cc nL s args Ts own) (hb : stb P) (hp : P s) (hM : rg l y ws fr lc As H P Post)
    (hT : GoodIn Ts (va_wsS own index y ws)) (hw : ws = Cond.code y bytes maxL ret :: ws')
    (hd : y.cls ≠ "java/lang/invoke/MethodHandle" ∧ y.cls ≠ "java/lang/invoke/VarHandle" ∧ (parseMethodDescriptor y.desc).map (fun d => d.parameters.length) = some n) (hR : fr + 1 ≤ R.frames ∧ 8 + (maxL + 11) + lc ≤ R.locals)
    (hn : As.length = n) (hl : ls.size = nL) (hst : st = As.reverse ++ rest) (hcat : (rest.map fun v => v.category).sum ≤ 8) (hdg : decode cc pc = .ok (.invokestatic index, 3)) (hf : cells ≤ R.cells ∧ slots ≤ R.slots)
    (kk : ∀ v : Option Value, Post v → W p l e R s m args below meth c H locs cells slots Q (F0 m (pc + 3) ls (v.toList ++ rest))) : W p l e R s m args below meth c H locs cells slots Q (F0 m pc ls st) := by
  subst hst
  have h0 : 2 * (F0 m pc ls (As.reverse ++ rest)).monitorRoom = 0 := rfl
  exact rg_k (va_runS (e := e) (below := below) (meth := meth) (H := H) (locs := locs) (cells := cells) (slots := slots) (rest := rest) (g := F0 m pc ls (As.reverse ++ rest)) S hM (va_cwS n S.2.2.2.2 hT hw rfl rfl hd hR) ⟨fun a9 u9 g9 k9 q => ⟨q.1, q.2.1, hb.1 u9 (u9.calling g9 k9 a9) rfl q.2.2⟩, fun U hU hW => ⟨rfl, hU, hb.2 _ _ hW hp⟩⟩ rfl hn hl rfl (by omega) hdg hf) kk
end RGC
abbrev sJ : String := "java/lang/String"
/-- the String at k, its row of n bytes f at v; the JDK's statics that it asks -/
def sgs (k v n : Nat) (f : Nat → Int32) (A : Nat → Prop) (H : Heap) (U : State) : Prop :=
  va_O sJ k A U H ∧ va_OF sJ "coder" "B" (.int 0) k A U H ∧ va_OF sJ "value" "[B" (.ref v) k A U H ∧ va_T .byte v n (fun j => .int (f j)) A U H ∧ va_Z sJ "COMPACT_STRINGS" "Z" (.int 1) A U H ∧ va_Zq "jdk/internal/util/Preconditions" "SIOOBE_FORMATTER" "Ljava/util/function/BiFunction;" A U H
theorem sgs_mv {k v n : Nat} {f : Nat → Int32} {A : Nat → Prop} {u U : State} (hv : u.vm.Alike U.vm) (h : sgs k v n f A H u) : sgs k v n f A H U :=
  ⟨va_O.moved hv h.1, va_OF.moved hv h.2.1, va_OF.moved hv h.2.2.1, va_T.moved hv h.2.2.2.1, va_Z.moved hv h.2.2.2.2.1, va_Zq.moved hv h.2.2.2.2.2⟩
theorem sgs_stb {k v n : Nat} {f : Nat → Int32} {A : Nat → Prop} : stb (sgs k v n f A H) := ⟨fun u U e h => sgs_mv (by rw [e]; exact Vm.Alike.refl _) h, fun s U hW h => sgs_mv hW.alike h⟩
theorem sgs_rc {k v n : Nat} {f : Nat → Int32} {A : Nat → Prop} {U : State} (h : sgs k v n f A H U) : ∃ cell : Cell, H[k]? = some cell ∧ cell.vm.isStatics = false ∧ U.vm.findClass sJ = some cell.cls := by
  obtain ⟨cell, h1, h2, h3, -⟩ := h.1
  exact ⟨cell, h1, h2, h3⟩
theorem idJ0_coder : yJ0_coder_7d493.cls = RJ0 ∧ yJ0_coder_7d493.cls ≠ "java/lang/invoke/MethodHandle" ∧ yJ0_coder_7d493.cls ≠ "java/lang/invoke/VarHandle" ∧ (parseMethodDescriptor yJ0_coder_7d493.desc).map (fun d => d.parameters.length) = some 0 := by decide +kernel
theorem idJ0_isEmpty : yJ0_isEmpty_aae02.cls = RJ0 ∧ yJ0_isEmpty_aae02.cls ≠ "java/lang/invoke/MethodHandle" ∧ yJ0_isEmpty_aae02.cls ≠ "java/lang/invoke/VarHandle" ∧ (parseMethodDescriptor yJ0_isEmpty_aae02.desc).map (fun d => d.parameters.length) = some 0 := by decide +kernel
theorem idJ0_length : yJ0_length_8abf5.cls = RJ0 ∧ yJ0_length_8abf5.cls ≠ "java/lang/invoke/MethodHandle" ∧ yJ0_length_8abf5.cls ≠ "java/lang/invoke/VarHandle" ∧ (parseMethodDescriptor yJ0_length_8abf5.desc).map (fun d => d.parameters.length) = some 0 := by decide +kernel
theorem idJ0_isLatin1 : yJ0_isLatin1_aae02.cls = RJ0 ∧ yJ0_isLatin1_aae02.cls ≠ "java/lang/invoke/MethodHandle" ∧ yJ0_isLatin1_aae02.cls ≠ "java/lang/invoke/VarHandle" ∧ (parseMethodDescriptor yJ0_isLatin1_aae02.desc).map (fun d => d.parameters.length) = some 0 := by decide +kernel
theorem idJ0_charAt : yJ0_charAt_5068e.cls = RJ0 ∧ yJ0_charAt_5068e.cls ≠ "java/lang/invoke/MethodHandle" ∧ yJ0_charAt_5068e.cls ≠ "java/lang/invoke/VarHandle" ∧ (parseMethodDescriptor yJ0_charAt_5068e.desc).map (fun d => d.parameters.length) = some 1 := by decide +kernel
theorem idJ3_checkIndex : yJ3_checkIndex_8e157.cls ≠ "java/lang/invoke/MethodHandle" ∧ yJ3_checkIndex_8e157.cls ≠ "java/lang/invoke/VarHandle" ∧ (parseMethodDescriptor yJ3_checkIndex_8e157.desc).map (fun d => d.parameters.length) = some 3 := by decide +kernel
theorem idJ0_checkIndex : yJ0_checkIndex_df160.cls ≠ "java/lang/invoke/MethodHandle" ∧ yJ0_checkIndex_df160.cls ≠ "java/lang/invoke/VarHandle" ∧ (parseMethodDescriptor yJ0_checkIndex_df160.desc).map (fun d => d.parameters.length) = some 2 := by decide +kernel
theorem idJ1_charAt : yJ1_charAt_3b067.cls ≠ "java/lang/invoke/MethodHandle" ∧ yJ1_charAt_3b067.cls ≠ "java/lang/invoke/VarHandle" ∧ (parseMethodDescriptor yJ1_charAt_3b067.desc).map (fun d => d.parameters.length) = some 2 := by decide +kernel
theorem mJ0_coder (l : Launch) {k v n : Nat} {f : Nat → Int32} {A : Nat → Prop} : rg l yJ0_coder_7d493 wsJ0_coder_7d493 0 0 [.ref k] H (sgs k v n f A H) (fun r => r = some (.int 0)) := by
  refine rg_of (cc := cJ0_coder_7d493) (maxL := 1) (ret := some .byte) (own := RJ0) (by decide +kernel) rfl rfl (Nat.le_of_ble_eq_true rfl) ?_
  intro p e s m below meth c Q ls hH S hp hl hri hra hrv
  subst hH
  obtain ⟨hx, hb, hml, hown, hts⟩ := id S
  have hl : lv_has ls 1 [(0, .ref k)] := hl
  have k38 := hts (.fieldLink RJ0 38 "java/lang/String" "COMPACT_STRINGS" "Z") (by decide +kernel)
  have k15 := hts (.fieldLink RJ0 15 "java/lang/String" "coder" "B") (by decide +kernel)
  refine va_gets hx hb hp.2.2.2.2.1 va_S.rf hown k38 (fun _ h => h) dJ0_coder_7d493_0 ?_
  refine lv_if_eq (tgt := 13) hx hb dJ0_coder_7d493_3 (by decide) (fun c_1 => ?_) (fun c_1 => ?_)
  · exact absurd c_1 (by decide)
  · refine lv_aload_n hx hb dJ0_coder_7d493_6 rfl (lv_at hl 0 rfl) ?_
    refine vk_getf hx hb hp.2.1 va_S.rf hown k15 (fun _ h => h) dJ0_coder_7d493_7 ?_
    refine lv_goto (tgt := 14) hx hb dJ0_coder_7d493_10 (by decide) ?_
    exact hri _ _ _ _ rfl rfl rfl dJ0_coder_7d493_14
theorem mJ0_isLatin1 (l : Launch) {k v n : Nat} {f : Nat → Int32} {A : Nat → Prop} : rg l yJ0_isLatin1_aae02 wsJ0_isLatin1_aae02 0 0 [.ref k] H (sgs k v n f A H) (fun r => r = some (.int 1)) := by
  refine rg_of (cc := cJ0_isLatin1_aae02) (maxL := 1) (ret := some .boolean) (own := RJ0) (by decide +kernel) rfl rfl (Nat.le_of_ble_eq_true rfl) ?_
  intro p e s m below meth c Q ls hH S hp hl hri hra hrv
  subst hH
  obtain ⟨hx, hb, hml, hown, hts⟩ := id S
  have hl : lv_has ls 1 [(0, .ref k)] := hl
  have k38 := hts (.fieldLink RJ0 38 "java/lang/String" "COMPACT_STRINGS" "Z") (by decide +kernel)
  have k15 := hts (.fieldLink RJ0 15 "java/lang/String" "coder" "B") (by decide +kernel)
  refine va_gets hx hb hp.2.2.2.2.1 va_S.rf hown k38 (fun _ h => h) dJ0_isLatin1_aae02_0 ?_
  refine lv_if_eq (tgt := 17) hx hb dJ0_isLatin1_aae02_3 (by decide) (fun c_1 => ?_) (fun c_1 => ?_)
  · exact absurd c_1 (by decide)
  · refine lv_aload_n hx hb dJ0_isLatin1_aae02_6 rfl (lv_at hl 0 rfl) ?_
    refine vk_getf hx hb hp.2.1 va_S.rf hown k15 (fun _ h => h) dJ0_isLatin1_aae02_7 ?_
    refine lv_if_ne (tgt := 17) hx hb dJ0_isLatin1_aae02_10 (by decide) (fun c_2 => ?_) (fun c_2 => ?_)
    · exact absurd rfl c_2
    · refine lv_iconst (v := 1) hx hb dJ0_isLatin1_aae02_13 (by decide) ?_
      refine lv_goto (tgt := 18) hx hb dJ0_isLatin1_aae02_14 (by decide) ?_
      exact hri _ _ _ _ rfl rfl rfl dJ0_isLatin1_aae02_18
theorem mJ0_isEmpty (l : Launch) {k v n : Nat} {f : Nat → Int32} {A : Nat → Prop} (hn : n < 2 ^ 31) : rg l yJ0_isEmpty_aae02 wsJ0_isEmpty_aae02 0 0 [.ref k] H (sgs k v n f A H) (fun r => r = some (.int (bI (decide (n = 0))))) := by
  refine rg_of (cc := cJ0_isEmpty_aae02) (maxL := 1) (ret := some .boolean) (own := RJ0) (by decide +kernel) rfl rfl (Nat.le_of_ble_eq_true rfl) ?_
  intro p e s m below meth c Q ls hH S hp hl hri hra hrv
  subst hH
  obtain ⟨hx, hb, hml, hown, hts⟩ := id S
  have hl : lv_has ls 1 [(0, .ref k)] := hl
  have k9 := hts (.fieldLink RJ0 9 "java/lang/String" "value" "[B") (by decide +kernel)
  refine lv_aload_n hx hb dJ0_isEmpty_aae02_0 rfl (lv_at hl 0 rfl) ?_
  refine vk_getf hx hb hp.2.2.1 va_S.rf hown k9 (fun _ h => h) dJ0_isEmpty_aae02_1 ?_
  refine va_tlen (v := nI n) hx hb hp.2.2.2.1 va_S.rf rfl dJ0_isEmpty_aae02_4 ?_
  refine lv_if_ne (tgt := 12) hx hb dJ0_isEmpty_aae02_5 (by decide) (fun c_1 => ?_) (fun c_1 => ?_)
  · replace c_1 := cn_ne (a := n) (b := 0) hn (by decide) c_1
    refine lv_iconst (v := 0) hx hb dJ0_isEmpty_aae02_12 (by decide) ?_
    exact hri _ _ _ _ rfl rfl (by rw [decide_eq_false c_1]; rfl) dJ0_isEmpty_aae02_13
  · replace c_1 := cn_eq (a := n) (b := 0) hn (by decide) c_1
    refine lv_iconst (v := 1) hx hb dJ0_isEmpty_aae02_8 (by decide) ?_
    refine lv_goto (tgt := 13) hx hb dJ0_isEmpty_aae02_9 (by decide) ?_
    exact hri _ _ _ _ rfl rfl (by rw [decide_eq_true c_1]; rfl) dJ0_isEmpty_aae02_13
theorem sh_z (n : Nat) : nI n >>> ((0 : Int32) &&& 31) = nI n := b_ext fun i hi => by
  rw [show (0 : Int32) = nI 0 from rfl, b_sshr 0 (by omega) _ hi, if_pos (by omega), Nat.zero_add]
theorem mJ0_length (l : Launch) {k v n : Nat} {f : Nat → Int32} {A : Nat → Prop} : rg l yJ0_length_8abf5 wsJ0_length_8abf5 1 20 [.ref k] H (sgs k v n f A H) (fun r => r = some (.int (nI n))) := by
  refine rg_of (cc := cJ0_length_8abf5) (maxL := 1) (ret := some .int) (own := RJ0) (by decide +kernel) rfl rfl (Nat.le_of_ble_eq_true rfl) ?_
  intro p e s m below meth c Q ls hH S hp hl hri hra hrv
  subst hH
  obtain ⟨hx, hb, hml, hown, hts⟩ := id S
  have hl : lv_has ls 1 [(0, .ref k)] := hl
  have k9 := hts (.fieldLink RJ0 9 "java/lang/String" "value" "[B") (by decide +kernel)
  refine lv_aload_n hx hb dJ0_length_8abf5_0 rfl (lv_at hl 0 rfl) ?_
  refine vk_getf hx hb hp.2.2.1 va_S.rf hown k9 (fun _ h => h) dJ0_length_8abf5_1 ?_
  refine va_tlen (v := nI n) hx hb hp.2.2.2.1 va_S.rf rfl dJ0_length_8abf5_4 ?_
  refine lv_aload_n hx hb dJ0_length_8abf5_5 rfl (lv_at hl 0 rfl) ?_
  refine rg_V S sgs_stb hp (mJ0_coder l) gJ0_length_8abf5_J0_coder_7d493 rfl idJ0_coder ⟨Nat.le_of_ble_eq_true rfl, Nat.le_of_ble_eq_true rfl⟩ (sgs_rc hp) rfl hl.1 rfl (Nat.le_of_ble_eq_true rfl) dJ0_length_8abf5_6 ⟨Nat.le_refl _, Nat.le_refl _⟩ (fun r hr => ?_)
  subst hr
  refine lv_ishr hx hb dJ0_length_8abf5_9 ?_
  exact hri _ _ _ _ rfl rfl (by rw [sh_z]) dJ0_length_8abf5_10
theorem mJ3_checkIndex (l : Launch) {i n : Nat} {x : Value} {P : State → Prop} (hx9 : x = .null ∨ ∃ t, x = .ref t) (hi : i < n) (hn : n < 2 ^ 31) : rg l yJ3_checkIndex_8e157 wsJ3_checkIndex_8e157 0 0 [.int (nI i), .int (nI n), x] H P (fun r => r = some (.int (nI i))) := by
  have key : ∀ hle : (lg_sl [.int (nI i), .int (nI n), x]).length ≤ 3, rg l yJ3_checkIndex_8e157 wsJ3_checkIndex_8e157 0 0 [.int (nI i), .int (nI n), x] H P (fun r => r = some (.int (nI i))) := fun hle => by
    refine rg_of (cc := cJ3_checkIndex_8e157) (maxL := 3) (ret := some .int) (own := RJ3) (by decide +kernel) rfl rfl hle ?_
    intro p e s m below meth c Q ls hH S hp hl hri hra hrv
    obtain ⟨hx, hb, hml, hown, hts⟩ := id S
    have hl : lv_has ls 3 [(0, .int (nI i)), (1, .int (nI n)), (2, x)] := hl
    refine lv_iload_n hx hb dJ3_checkIndex_8e157_0 rfl (lv_at hl 0 rfl) ?_
    refine lv_if_lt (tgt := 9) hx hb dJ3_checkIndex_8e157_1 (by decide) (fun c_1 => ?_) (fun c_1 => ?_)
    · exact absurd c_1 (nI_pos (by omega))
    · refine lv_iload_n hx hb dJ3_checkIndex_8e157_4 rfl (lv_at hl 0 rfl) ?_
      refine lv_iload_n hx hb dJ3_checkIndex_8e157_5 rfl (lv_at hl 1 rfl) ?_
      refine lv_icmp_lt (tgt := 16) hx hb dJ3_checkIndex_8e157_6 (by decide) (fun c_2 => ?_) (fun c_2 => ?_)
      · refine lv_iload_n hx hb dJ3_checkIndex_8e157_16 rfl (lv_at hl 0 rfl) ?_
        exact hri _ _ _ _ rfl rfl rfl dJ3_checkIndex_8e157_17
      · exact absurd ((nI_ltI (by omega) hn).mpr hi) c_2
  rcases hx9 with rfl | ⟨t, rfl⟩
  · exact key (Nat.le_of_ble_eq_true rfl)
  · exact key (Nat.le_of_ble_eq_true rfl)
theorem mJ0_checkIndex (l : Launch) {k v n n2 i : Nat} {f : Nat → Int32} {A : Nat → Prop} (hi : i < n) (hn : n < 2 ^ 31) : rg l yJ0_checkIndex_df160 wsJ0_checkIndex_df160 1 22 [.int (nI i), .int (nI n)] H (sgs k v n2 f A H) (fun r => r = none) := by
  refine rg_of (cc := cJ0_checkIndex_df160) (maxL := 2) (ret := none) (own := RJ0) (by decide +kernel) rfl rfl (Nat.le_of_ble_eq_true rfl) ?_
  intro p e s m below meth c Q ls hH S hp hl hri hra hrv
  subst hH
  obtain ⟨hx, hb, hml, hown, hts⟩ := id S
  have hl : lv_has ls 2 [(0, .int (nI i)), (1, .int (nI n))] := hl
  have k1053 := hts (.fieldLink RJ0 1053 "jdk/internal/util/Preconditions" "SIOOBE_FORMATTER" "Ljava/util/function/BiFunction;") (by decide +kernel)
  refine lv_iload_n hx hb dJ0_checkIndex_df160_0 rfl (lv_at hl 0 rfl) ?_
  refine lv_iload_n hx hb dJ0_checkIndex_df160_1 rfl (lv_at hl 1 rfl) ?_
  rcases hp.2.2.2.2.2 with hz | ⟨t, hz⟩
  · refine va_gets hx hb hz va_S.rf hown k1053 (fun _ h => h) dJ0_checkIndex_df160_2 ?_
    refine rg_S S sgs_stb hp (mJ3_checkIndex l (Or.inl rfl) hi hn) gJ0_checkIndex_df160_J3_checkIndex_8e157 rfl idJ3_checkIndex ⟨Nat.le_of_ble_eq_true rfl, Nat.le_of_ble_eq_true rfl⟩ rfl hl.1 rfl (Nat.le_of_ble_eq_true rfl) dJ0_checkIndex_df160_5 ⟨Nat.le_refl _, Nat.le_refl _⟩ (fun r hr => ?_)
    subst hr
    refine lv_pop hx hb dJ0_checkIndex_df160_8 rfl ?_
    exact hrv _ _ rfl rfl dJ0_checkIndex_df160_9
  · refine va_gets hx hb hz va_S.rf hown k1053 (fun _ h => h) dJ0_checkIndex_df160_2 ?_
    refine rg_S S sgs_stb hp (mJ3_checkIndex l (Or.inr ⟨t, rfl⟩) hi hn) gJ0_checkIndex_df160_J3_checkIndex_8e157 rfl idJ3_checkIndex ⟨Nat.le_of_ble_eq_true rfl, Nat.le_of_ble_eq_true rfl⟩ rfl hl.1 rfl (Nat.le_of_ble_eq_true rfl) dJ0_checkIndex_df160_5 ⟨Nat.le_refl _, Nat.le_refl _⟩ (fun r hr => ?_)
    subst hr
    refine lv_pop hx hb dJ0_checkIndex_df160_8 rfl ?_
    exact hrv _ _ rfl rfl dJ0_checkIndex_df160_9
theorem mJ1_charAt (l : Launch) {k v n i : Nat} {f : Nat → Int32} {A : Nat → Prop} {ch : Int32} (hi : i < n) (hn : n < 2 ^ 31) (hf : f i = ch) (h1 : ch &&& 255 = ch) (h2 : (ch.toUInt32 % 65536).toInt32 = ch) (h3 : narrow .char (.int ch) = .int ch) : rg l yJ1_charAt_3b067 wsJ1_charAt_3b067 2 43 [.ref v, .int (nI i)] H (sgs k v n f A H) (fun r => r = some (.int ch)) := by
  refine rg_of (cc := cJ1_charAt_3b067) (maxL := 2) (ret := some .char) (own := RJ1) (by decide +kernel) rfl rfl (Nat.le_of_ble_eq_true rfl) ?_
  intro p e s m below meth c Q ls hH S hp hl hri hra hrv
  subst hH
  obtain ⟨hx, hb, hml, hown, hts⟩ := id S
  have hl : lv_has ls 2 [(0, .ref v), (1, .int (nI i))] := hl
  refine lv_iload_n hx hb dJ1_charAt_3b067_0 rfl (lv_at hl 1 rfl) ?_
  refine lv_aload_n hx hb dJ1_charAt_3b067_1 rfl (lv_at hl 0 rfl) ?_
  refine va_tlen (v := nI n) hx hb hp.2.2.2.1 va_S.rf rfl dJ1_charAt_3b067_2 ?_
  refine rg_S S sgs_stb hp (mJ0_checkIndex l hi hn) gJ1_charAt_3b067_J0_checkIndex_df160 rfl idJ0_checkIndex ⟨Nat.le_of_ble_eq_true rfl, Nat.le_of_ble_eq_true rfl⟩ rfl hl.1 rfl (Nat.le_of_ble_eq_true rfl) dJ1_charAt_3b067_3 ⟨Nat.le_refl _, Nat.le_refl _⟩ (fun r hr => ?_)
  subst hr
  refine W.eq (g2 := F0 m 6 ls []) rfl ?_
  refine lv_aload_n hx hb dJ1_charAt_3b067_6 rfl (lv_at hl 0 rfl) ?_
  refine lv_iload_n hx hb dJ1_charAt_3b067_7 rfl (lv_at hl 1 rfl) ?_
  refine va_tb (v := .int ch) hx hb hp.2.2.2.1 va_S.rf (vp_in_nI hi hn) (by rw [nI_clamp (by omega), hf]) dJ1_charAt_3b067_8 ?_
  refine lv_sipush (v := 255) hx hb dJ1_charAt_3b067_9 (by decide) ?_
  refine lv_iand hx hb dJ1_charAt_3b067_12 ?_
  rw [h1]
  refine lv_i2c (v := ch) hx hb dJ1_charAt_3b067_13 h2 ?_
  exact hri _ _ _ _ rfl h3 rfl dJ1_charAt_3b067_14
theorem mJ0_charAt (l : Launch) {k v n i : Nat} {f : Nat → Int32} {A : Nat → Prop} {ch : Int32} (hi : i < n) (hn : n < 2 ^ 31) (hf : f i = ch) (h1 : ch &&& 255 = ch) (h2 : (ch.toUInt32 % 65536).toInt32 = ch) (h3 : narrow .char (.int ch) = .int ch) : rg l yJ0_charAt_5068e wsJ0_charAt_5068e 3 64 [.ref k, .int (nI i)] H (sgs k v n f A H) (fun r => r = some (.int ch)) := by
  refine rg_of (cc := cJ0_charAt_5068e) (maxL := 2) (ret := some .char) (own := RJ0) (by decide +kernel) rfl rfl (Nat.le_of_ble_eq_true rfl) ?_
  intro p e s m below meth c Q ls hH S hp hl hri hra hrv
  subst hH
  obtain ⟨hx, hb, hml, hown, hts⟩ := id S
  have hl : lv_has ls 2 [(0, .ref k), (1, .int (nI i))] := hl
  have k9 := hts (.fieldLink RJ0 9 "java/lang/String" "value" "[B") (by decide +kernel)
  refine lv_aload_n hx hb dJ0_charAt_5068e_0 rfl (lv_at hl 0 rfl) ?_
  refine rg_V S sgs_stb hp (mJ0_isLatin1 l) gJ0_charAt_5068e_J0_isLatin1_aae02 rfl idJ0_isLatin1 ⟨Nat.le_of_ble_eq_true rfl, Nat.le_of_ble_eq_true rfl⟩ (sgs_rc hp) rfl hl.1 rfl (Nat.le_of_ble_eq_true rfl) dJ0_charAt_5068e_1 ⟨Nat.le_refl _, Nat.le_refl _⟩ (fun r hr => ?_)
  subst hr
  refine W.eq (g2 := F0 m 4 ls [.int 1]) rfl ?_
  refine lv_if_eq (tgt := 16) hx hb dJ0_charAt_5068e_4 (by decide) (fun c_1 => ?_) (fun c_1 => ?_)
  · exact absurd c_1 (by decide)
  · refine lv_aload_n hx hb dJ0_charAt_5068e_7 rfl (lv_at hl 0 rfl) ?_
    refine vk_getf hx hb hp.2.2.1 va_S.rf hown k9 (fun _ h => h) dJ0_charAt_5068e_8 ?_
    refine lv_iload_n hx hb dJ0_charAt_5068e_11 rfl (lv_at hl 1 rfl) ?_
    refine rg_S S sgs_stb hp (mJ1_charAt l hi hn hf h1 h2 h3) gJ0_charAt_5068e_J1_charAt_3b067 rfl idJ1_charAt ⟨Nat.le_of_ble_eq_true rfl, Nat.le_of_ble_eq_true rfl⟩ rfl hl.1 rfl (Nat.le_of_ble_eq_true rfl) dJ0_charAt_5068e_12 ⟨Nat.le_refl _, Nat.le_refl _⟩ (fun r hr => ?_)
    subst hr
    refine W.eq (g2 := F0 m 15 ls [.int ch]) rfl ?_
    exact hri _ _ _ _ rfl h3 rfl dJ0_charAt_5068e_15
end STR
