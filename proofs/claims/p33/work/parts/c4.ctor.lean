/-! my kit, 10: constructors: they make cells -/
section CTOR
/-- what stays where only the tables grow warmer -/
def stb (P : State → Prop) : Prop := (∀ u U : State, U.vm = u.vm → P u → P U) ∧ ∀ s U : State, s.WarmedH U.vm → P s → P U
variable {l : Launch} {G : va_G} {T : Nat → ClassId} {H : Heap}
abbrev rmk (fr lc k n : Nat) : Room := { frames := fr, cells := k, slots := n, locals := lc }
def at0p (G : va_G) (T : Nat → ClassId) (P9 : State → Prop) (H : Heap) : State → Prop := fun U => U.heap = H ∧ kx G T U ∧ P9 U
theorem at0p_blind {as : List Value} {P9 : State → Prop} (h : stb P9) : FrameBlind (va_Pc as (at0p G T P9 H)) := fun a9 u9 g9 k9 q => ⟨q.1, q.2.1, q.2.2.1.same rfl, h.1 u9 (u9.calling g9 k9 a9) rfl q.2.2.2⟩
theorem stb_T : stb (fun _ => True) := ⟨fun _ _ _ _ => trivial, fun _ _ _ _ => trivial⟩
theorem stb_AO (C : String) : stb (va_AO C) := ⟨fun u U e h => va_AO.moved (by rw [e]; exact Vm.Alike.refl _) h, fun _ _ hW h => va_AO.moved hW.alike h⟩
def nwQ (G : va_G) (Sh : va_W → Prop) (A : Nat → Prop) : Option Value → Heap → Prop := fun v9 H9 => v9 = none ∧ ∃ w1, Sh w1 ∧ va_P G vwCl w1 H9 ∧ va_D A w1
/-- a constructor: behind it a world of the shape Sh stands where w was -/
abbrev mk (l : Launch) (y : MethodName) (ws : List Cond) (fr lc k n : Nat) (as : List Value) (G : va_G) (T : Nat → ClassId) (P9 : State → Prop) (H : Heap) (w : va_W) (Sh : va_W → Prop) : Prop :=
  Met l y ws (rmk fr lc k n) (va_Pc as (at0p G T P9 H)) (muQ H w (nwQ G Sh (va_A w H.size))) k n (va_A w H.size)
theorem mk_of {y : MethodName} {ws ws' : List Cond} {fr lc k n : Nat} {as : List Value} {w : va_W} {Sh : va_W → Prop} {P9 : State → Prop} {cc : ByteArray} {maxL : Nat} {own : String}
    (hy : plainName y.cls = true) (hw : ws = Cond.code y cc maxL none :: ws') (hown : y.cls = own) (hyn : y.name = "<init>") (hle : (lg_sl as).length ≤ maxL) (hD : va_D (fun _ => True) w)
    (body : ∀ (p : Program) (e : Env) (s : State) (m : MethodId) (below : List Frame) (meth : Method) (c : Code) (Q : State → Prop) (ls : Array Slot) (A : Nat → Prop),
      CallFix p m c cc maxL s as.toArray ws own → kx G T s → P9 s → meth.name = "<init>" → lv_has ls maxL (lv_args 0 as) → va_D A w → va_S A H H [] → (∀ q, H.size ≤ q → A q) →
      (∀ (w1 : va_W) (H1 : Heap) (locs1 : List Loc) (pc : Nat) (ls : Array Slot), Sh w1 → va_P G vwCl w1 H1 → va_D A w1 → va_S A H H1 locs1 → decode cc pc = .ok (.return_, 1) → W p l e (rmk fr lc k n) s m as.toArray below meth c H1 locs1 k n Q (F0 m pc ls [])) →
      W p l e (rmk fr lc k n) s m as.toArray below meth c H [] 0 0 Q (F0 m 0 ls [])) : mk l y ws fr lc k n as G T P9 H w Sh := by
  refine Met.ofW hy hw ?_
  intro p e s m args below meth c s₁ B hml hv
  obtain ⟨rfl, hH, hk, hp9⟩ := hv
  subst hH
  have hts := atoms_spec (ws := ws) B.pre
  have ho : s.vm.findClass own = some m.cls := hown ▸ findClass_of_methodNamed B.named
  have hin : meth.name = "<init>" := (name_of_methodNamed B.named B.method).1.trans hyn
  have hl := lv_entry as hle
  rw [lg_entry_eq]
  refine body p e s m below meth c _ _ (va_A w s.heap.size) ⟨B.exec, B.bytes, hml, ho, hts⟩ hk hp9 hin hl hD.self va_S.rf (fun q h => Or.inr h) ?_
  intro w1 H1 locs1 pc ls hsh hp hd1 hS hd
  exact W.vret B.exec B.bytes B.returns (fun t ht _ => ⟨_, rfl, ⟨rfl, w1, hsh, by rw [ht]; exact hp, hd1⟩, hS.F ht⟩) hS.2.2 hd B.notSynchronized
/-- new cells behind a call: the others stay -/
theorem fr_new {A : Nat → Prop} {X wc w1 : va_W} {H1 : Heap} (hP : va_P G vwCl (X ++ wc) H) (hD : va_D A (X ++ wc)) (hA : ∀ q, H.size ≤ q → A q) (hk : ∀ q : Nat, q < H.size → ¬ va_A wc H.size q → H1[q]? = H[q]?) (hP1 : va_P G vwCl w1 H1) (hD1 : va_D (va_A wc H.size) w1) : va_P G vwCl (X ++ w1) H1 ∧ va_D A (X ++ w1) := by
  have hX : ∀ (i : Nat) (q : Nat × va_E), X[i]? = some q → q.1 < H.size ∧ ¬ va_A wc H.size q.1 := by
    intro i q hq
    have hl := (List.getElem?_eq_some_iff.mp hq).1
    have hq2 : (X ++ wc)[i]? = some q := by rw [List.getElem?_append_left hl]; exact hq
    have hlt := (hP i q hq2).lt
    refine ⟨hlt, ?_⟩
    rintro (⟨k, e, hke⟩ | h)
    · have h2 : (X ++ wc)[X.length + k]? = some (q.1, e) := by rw [List.getElem?_append_right (by omega), Nat.add_sub_cancel_left, hke]
      have := hD.1 i (X.length + k) q (q.1, e) hq2 h2 rfl
      omega
    · omega
  refine ⟨fun i q hq => ?_, ⟨fun i j x z hx hz hxz => ?_, fun i q hq => ?_⟩⟩
  · rcases Nat.lt_or_ge i X.length with h | h
    · rw [List.getElem?_append_left h] at hq
      have hq2 : (X ++ wc)[i]? = some q := by rw [List.getElem?_append_left h]; exact hq
      exact (hP i q hq2).kept (hk q.1 (hX i q hq).1 (hX i q hq).2)
    · rw [List.getElem?_append_right h] at hq
      exact hP1 _ q hq
  · rcases Nat.lt_or_ge i X.length with h | h
    · rw [List.getElem?_append_left h] at hx
      rcases Nat.lt_or_ge j X.length with g | g
      · rw [List.getElem?_append_left g] at hz
        exact hD.1 i j x z (by rw [List.getElem?_append_left h]; exact hx) (by rw [List.getElem?_append_left g]; exact hz) hxz
      · rw [List.getElem?_append_right g] at hz
        exact absurd (hD1.2 _ z hz) (by rw [← hxz]; exact (hX i x hx).2)
    · rw [List.getElem?_append_right h] at hx
      rcases Nat.lt_or_ge j X.length with g | g
      · rw [List.getElem?_append_left g] at hz
        exact absurd (hD1.2 _ x hx) (by rw [hxz]; exact (hX j z hz).2)
      · rw [List.getElem?_append_right g] at hz
        have := hD1.1 _ _ x z hx hz hxz
        omega
  · rcases Nat.lt_or_ge i X.length with h | h
    · exact hD.2 i q (by rw [List.getElem?_append_left h] at hq ⊢; exact hq)
    · rw [List.getElem?_append_right h] at hq
      rcases hD1.2 _ q hq with ⟨k, e, hke⟩ | g
      · exact hD.2 (X.length + k) (q.1, e) (by rw [List.getElem?_append_right (by omega), Nat.add_sub_cancel_left, hke])
      · exact hA q.1 g
section MKC
variable {p : Program} {e : Env} {R : Room} {s : State} {m : MethodId} {args : Array Value} {below : List Frame} {meth : Method} {c : Code} {locs : List Loc} {cells slots : Nat} {Q : State → Prop}
variable {y : MethodName} {bytes cc : ByteArray} {maxL nL index fr lc k n pc : Nat} {ws ws' : List Cond} {Ts : List Cond} {own : String} {b : Addr} {rest st : List Value} {ls : Array Slot}
theorem mk_k {A0 : Nat → Prop} {H0 : Heap} {X : va_W} {e9 : va_E} {Sh : va_W → Prop} {a : Array Value}
    (hr : va_Run p l e R s m args below meth c H locs cells slots k n (F0 m pc ls st) rest (muQ H [(b, e9)] (nwQ G Sh (va_A [(b, e9)] H.size)) a) (va_A [(b, e9)] H.size))
    (hP : va_P G vwCl (X ++ [(b, e9)]) H) (hD : va_D A0 (X ++ [(b, e9)])) (hS : va_S A0 H0 H locs) (hA : ∀ q, H0.size ≤ q → A0 q)
    (kk : ∀ (w1 : va_W) (H1 : Heap) (locs1 : List Loc), Sh w1 → va_P G vwCl (X ++ w1) H1 → va_D A0 (X ++ w1) → va_S A0 H0 H1 locs1 → W p l e R s m args below meth c H1 locs1 (cells + k) (slots + n) Q (F0 m (pc + 3) ls rest)) : W p l e R s m args below meth c H locs cells slots Q (F0 m pc ls st) := by
  have hA2 : ∀ q, H.size ≤ q → A0 q := fun q h => hA q (Nat.le_trans hS.1 h)
  have hFc : ∀ q, va_A [(b, e9)] H.size q → A0 q := by
    rintro q (⟨k9, e8, h⟩ | h)
    · exact hD.2 (X.length + k9) (q, e8) (by rw [List.getElem?_append_right (by omega), Nat.add_sub_cancel_left, h])
    · exact hA2 q h
  intro Z hZ X'
  obtain ⟨v, st₀, t, T', L, g0, X', hL, e1, -, ⟨v2, hv, ⟨hvn, w1, hsh, hp, hd1⟩, hz, hk2⟩, st⟩ := hr Z hZ X'
  cases hv
  subst hvn
  rw [g0] at hz hk2
  obtain ⟨hPn, hDn⟩ := fr_new hP hD hA2 hk2 hp hd1
  obtain ⟨t2, a1, b1⟩ := kk w1 T'.heap (locs ++ L) hsh (by rw [e1]; exact hPn) hDn
    ⟨Nat.le_trans hS.1 (by rw [e1]; exact hz), fun q h1 h2 => by rw [e1, hk2 q (Nat.lt_of_lt_of_le h1 hS.1) (fun z => h2 (hFc q z))]; exact hS.2.1 q h1 h2, fun q hq => by
      rcases List.mem_append.mp hq with h | h
      · exact hS.2.2 q h
      · exact hFc _ (hL q h)⟩ T' rfl X'
  exact ⟨t2, st t2 a1, b1⟩
theorem mk_IN {host : String} {A0 : Nat → Prop} {H0 : Heap} {X : va_W} {e9 : va_E} {Sh : va_W → Prop} (S : CallFix p m c cc nL s args Ts own) {P9 : State → Prop} (hk : kx G T s) (hb9 : stb P9) (hp9 : P9 s) (hM : mk l y ws fr lc k n [.ref b] G T P9 H [(b, e9)] Sh)
    (hG : GoodIn Ts ws) (hw : ws = Cond.code y bytes maxL none :: ws') (hnst : va_Nw (.methodLinkNest own index y host) s) (hini : (Cond.initialized y.cls).before args s = true) (hins : (Cond.instanceMethod y).before args s = true) (hyn : y.name = "<init>")
    (hd : y.cls ≠ "java/lang/invoke/MethodHandle" ∧ y.cls ≠ "java/lang/invoke/VarHandle" ∧ (parseMethodDescriptor y.desc).map (fun d => d.parameters.length) = some 0) (hR : fr + 1 ≤ R.frames ∧ 8 + (maxL + 11) + lc ≤ R.locals)
    (hl : ls.size = nL) (hst : st = .ref b :: rest) (hcat : (rest.map fun v => v.category).sum ≤ 8) (hdg : decode cc pc = .ok (.invokespecial index, 3)) (hf : cells + k ≤ R.cells ∧ slots + n ≤ R.slots)
    (hP : va_P G vwCl (X ++ [(b, e9)]) H) (hD : va_D A0 (X ++ [(b, e9)])) (hS : va_S A0 H0 H locs) (hA : ∀ q, H0.size ≤ q → A0 q)
    (kk : ∀ (w1 : va_W) (H1 : Heap) (locs1 : List Loc), Sh w1 → va_P G vwCl (X ++ w1) H1 → va_D A0 (X ++ w1) → va_S A0 H0 H1 locs1 → W p l e R s m args below meth c H1 locs1 (cells + k) (slots + n) Q (F0 m (pc + 3) ls rest)) : W p l e R s m args below meth c H locs cells slots Q (F0 m pc ls st) := by
  subst hst
  have h0 : 2 * (F0 m pc ls (.ref b :: rest)).monitorRoom = 0 := rfl
  exact mk_k (va_runIN (e := e) (H := H) (locs := locs) (cells := cells) (slots := slots) (rest := rest) (g := F0 m pc ls (.ref b :: rest)) (below := below) (meth := meth) (As := []) S hM ⟨va_cnB 0 S.2.2.2.2 hG hw rfl rfl hnst hini hd hR, hyn, hins⟩ ⟨at0p_blind hb9, fun U hU hW => ⟨rfl, hU, hk.warm hW, hb9.2 _ _ hW hp9⟩⟩ rfl rfl hl rfl (by omega) hdg hf) hP hD hS hA kk
theorem mk_I {A0 : Nat → Prop} {H0 : Heap} {X : va_W} {e9 : va_E} {Sh : va_W → Prop} (S : CallFix p m c cc nL s args Ts own) {P9 : State → Prop} (hk : kx G T s) (hb9 : stb P9) (hp9 : P9 s) (hM : mk l y ws fr lc k n [.ref b] G T P9 H [(b, e9)] Sh)
    (hG : GoodIn Ts ws) (hw : ws = Cond.code y bytes maxL none :: ws') (hlk : (Cond.methodLink own index y).before args s = true) (hini : (Cond.initialized y.cls).before args s = true) (hins : (Cond.instanceMethod y).before args s = true) (hyn : y.name = "<init>")
    (hd : y.cls ≠ "java/lang/invoke/MethodHandle" ∧ y.cls ≠ "java/lang/invoke/VarHandle" ∧ (parseMethodDescriptor y.desc).map (fun d => d.parameters.length) = some 0) (hR : fr + 1 ≤ R.frames ∧ 8 + (maxL + 11) + lc ≤ R.locals)
    (hl : ls.size = nL) (hst : st = .ref b :: rest) (hcat : (rest.map fun v => v.category).sum ≤ 8) (hdg : decode cc pc = .ok (.invokespecial index, 3)) (hf : cells + k ≤ R.cells ∧ slots + n ≤ R.slots)
    (hP : va_P G vwCl (X ++ [(b, e9)]) H) (hD : va_D A0 (X ++ [(b, e9)])) (hS : va_S A0 H0 H locs) (hA : ∀ q, H0.size ≤ q → A0 q)
    (kk : ∀ (w1 : va_W) (H1 : Heap) (locs1 : List Loc), Sh w1 → va_P G vwCl (X ++ w1) H1 → va_D A0 (X ++ w1) → va_S A0 H0 H1 locs1 → W p l e R s m args below meth c H1 locs1 (cells + k) (slots + n) Q (F0 m (pc + 3) ls rest)) : W p l e R s m args below meth c H locs cells slots Q (F0 m pc ls st) := by
  subst hst
  have h0 : 2 * (F0 m pc ls (.ref b :: rest)).monitorRoom = 0 := rfl
  exact mk_k (va_runI (e := e) (H := H) (locs := locs) (cells := cells) (slots := slots) (rest := rest) (g := F0 m pc ls (.ref b :: rest)) (below := below) (meth := meth) (As := []) S hM (cwI 0 S.2.2.2.2 hG hw rfl rfl hini hlk hins hyn hd hR) ⟨at0p_blind hb9, fun U hU hW => ⟨rfl, hU, hk.warm hW, hb9.2 _ _ hW hp9⟩⟩ rfl rfl hl rfl (by omega) hdg hf) hP hD hS hA kk
end MKC
theorem tk_0 {s : State} {cA : ClassId} (h : va_K G vwCl (tk T ++ [(cA, .int)]) s) : cA = T 0 := Option.some.inj (((h.2 3 (cA, .int) rfl).2 : s.vm.findClass _ = some cA).symm.trans ((h.2 0 (T 0, .int) rfl).2 : s.vm.findClass _ = some (T 0)))
theorem tk_1 {s : State} {cA : ClassId} (h : va_K G vwCl (tk T ++ [(cA, .byte)]) s) : cA = T 1 := Option.some.inj (((h.2 3 (cA, .byte) rfl).2 : s.vm.findClass _ = some cA).symm.trans ((h.2 1 (T 1, .byte) rfl).2 : s.vm.findClass _ = some (T 1)))
theorem tk_2 {s : State} {cA : ClassId} (h : va_K G vwCl (tk T ++ [(cA, .object "SunsetDates$Calendar")]) s) : cA = T 2 := by
  obtain ⟨kA, comp, -, -, -, h1⟩ := (h.2 3 (cA, .object "SunsetDates$Calendar") rfl).2
  obtain ⟨kA2, comp2, -, -, -, h2⟩ := (h.2 2 (T 2, .object "SunsetDates$Calendar") rfl).2
  exact Option.some.inj (h1.symm.trans h2)
section NWR
variable {p : Program} {e : Env} {R : Room} {s : State} {m : MethodId} {args : Array Value} {below : List Frame} {meth : Method} {c : Code} {locs : List Loc} {cells slots : Nat} {Q : State → Prop}
variable {cc : ByteArray} {pc : Nat} {ls : Array Slot} {rest : List Value} {w : va_W} {A : Nat → Prop} {H0 : Heap}
theorem nwi (hexec : p.tables.exec = Jvm.exec) (hb : c.code = cc) (harr : (Cond.arrayClass .int).before args s = true) (hk : kx G T s) (hP : va_P G vwCl w H) (hD : va_D A w) (hS : va_S A H0 H locs) (hA : ∀ q, H0.size ≤ q → A q)
    {n : Nat} {x : Int32} (hx : x = nI n) (hn : n < 2 ^ 27) (hcells : cells + 1 ≤ R.cells) (hslots : slots + n ≤ R.slots) (hdg : decode cc pc = .ok (.newarray .int, 2))
    (kk : ∀ (q : Nat) (H1 : Heap), va_P G vwCl (w ++ [(q, .inl (T 0, n, .inl (fun _ => 0)))]) H1 → va_D A (w ++ [(q, .inl (T 0, n, .inl (fun _ => 0)))]) → va_S A H0 H1 locs → W p l e R s m args below meth c H1 locs (cells + 1) (slots + n) Q (F0 m (pc + 2) ls (.ref q :: rest))) : W p l e R s m args below meth c H locs cells slots Q (F0 m pc ls (.int x :: rest)) := by
  subst hx
  refine va_newa (atype := .int) (ty := .int) (a0 := (n, .inl (fun _ => 0))) hexec hb harr rfl hk.1 hP hD hS hA (fun cA => rfl) (nI_pos (by omega)) (nI_clamp (by omega)) (by show n * 4 ≤ 536870912; omega) hcells hslots hdg (fun q cA H1 hK hP hD hS => ?_)
  have e := tk_0 hK
  subst e
  exact kk q H1 hP hD hS
theorem nwb (hexec : p.tables.exec = Jvm.exec) (hb : c.code = cc) (harr : (Cond.arrayClass .byte).before args s = true) (hk : kx G T s) (hP : va_P G vwCl w H) (hD : va_D A w) (hS : va_S A H0 H locs) (hA : ∀ q, H0.size ≤ q → A q)
    {n : Nat} {x : Int32} (hx : x = nI n) (hn : n < 2 ^ 27) (hcells : cells + 1 ≤ R.cells) (hslots : slots + n ≤ R.slots) (hdg : decode cc pc = .ok (.newarray .byte, 2))
    (kk : ∀ (q : Nat) (H1 : Heap), va_P G vwCl (w ++ [(q, .inl (T 1, n, .inl (fun _ => 0)))]) H1 → va_D A (w ++ [(q, .inl (T 1, n, .inl (fun _ => 0)))]) → va_S A H0 H1 locs → W p l e R s m args below meth c H1 locs (cells + 1) (slots + n) Q (F0 m (pc + 2) ls (.ref q :: rest))) : W p l e R s m args below meth c H locs cells slots Q (F0 m pc ls (.int x :: rest)) := by
  subst hx
  refine va_newa (atype := .byte) (ty := .byte) (a0 := (n, .inl (fun _ => 0))) hexec hb harr rfl hk.1 hP hD hS hA (fun cA => rfl) (nI_pos (by omega)) (nI_clamp (by omega)) (by show n * 1 ≤ 536870912; omega) hcells hslots hdg (fun q cA H1 hK hP hD hS => ?_)
  have e := tk_1 hK
  subst e
  exact kk q H1 hP hD hS
theorem nwq {own : String} {index : Nat} (hexec : p.tables.exec = Jvm.exec) (hb : c.code = cc) (hown : s.vm.findClass own = some m.cls) (hlk : (Cond.classLink own index "SunsetDates$Calendar").before args s = true) (hover : va_AO "SunsetDates$Calendar" s) (hk : kx G T s) (hP : va_P G vwCl w H) (hD : va_D A w) (hS : va_S A H0 H locs) (hA : ∀ q, H0.size ≤ q → A q)
    {n : Nat} {x : Int32} (hx : x = nI n) (hn : n < 2 ^ 27) (hcells : cells + 1 ≤ R.cells) (hslots : slots + n ≤ R.slots) (hdg : decode cc pc = .ok (.anewarray index, 3))
    (kk : ∀ (q : Nat) (H1 : Heap), va_P G vwCl (w ++ [(q, .inl (T 2, n, .inr (.inr (.inr (.inr (fun _ => none))))))]) H1 → va_D A (w ++ [(q, .inl (T 2, n, .inr (.inr (.inr (.inr (fun _ => none))))))]) → va_S A H0 H1 locs → W p l e R s m args below meth c H1 locs (cells + 1) (slots + n) Q (F0 m (pc + 3) ls (.ref q :: rest))) : W p l e R s m args below meth c H locs cells slots Q (F0 m pc ls (.int x :: rest)) := by
  subst hx
  refine va_newq hexec hb hown hlk hover hk.1 hP hD hS hA (nI_pos (by omega)) (nI_clamp (by omega)) (by omega) hcells hslots hdg (fun q cA H1 hK hP hD hS => ?_)
  have e := tk_2 hK
  subst e
  exact kk q H1 hP hD hS
end NWR
abbrev z0 : Nat → Nat := fun _ => 0
abbrev zz : Nat → Nat → Int32 := fun _ _ => 0
abbrev wVe (T : Nat → ClassId) (a : Nat → Nat) : va_W := [(a 1, .inr (4, [.int (nI 0), .ref (a 2), .ref (a 3), .ref (a 4), .ref (a 5)])), (a 2, .inl (T 0, 8, .inl (zz 1))), (a 3, .inl (T 0, 8, .inl (zz 2))), (a 4, .inl (T 0, 8, .inl (zz 3))), (a 5, .inl (T 0, 8, .inl (zz 4)))]
abbrev wUs (T : Nat → ClassId) (a : Nat → Nat) : va_W := [(a 6, .inr (3, [.int (nI 0), .ref (a 7), .ref (a 8), .ref (a 9), .ref (a 10), .ref (a 11), .ref (a 12)])), (a 7, .inl (T 0, 10, .inl (zz 5))), (a 8, .inl (T 0, 10, .inl (zz 6))), (a 9, .inl (T 0, 10, .inl (zz 7))), (a 10, .inl (T 0, 10, .inl (zz 8))), (a 11, .inl (T 0, 10, .inl (zz 9))), (a 12, .inl (T 0, 10, .inl (zz 10)))]
abbrev wSh (T : Nat → ClassId) (a : Nat → Nat) : va_W := [(a 13, .inr (2, [.int (nI 0), .ref (a 14), .ref (a 15), .ref (a 16), .ref (a 17), .ref (a 18)])), (a 14, .inl (T 0, 12, .inl (zz 11))), (a 15, .inl (T 0, 12, .inl (zz 12))), (a 16, .inl (T 0, 12, .inl (zz 13))), (a 17, .inl (T 0, 12, .inl (zz 14))), (a 18, .inl (T 0, 12, .inl (zz 15)))]
abbrev wOr (T : Nat → ClassId) (q : Nat → Nat) : va_W := [(q 2, .inr (1, [.ref (q 3), .int (nI 0), .int (nI 0), .int (-1), .int 0, .ref (q 4), .int (nI 0)])), (q 3, .inl (T 1, 100, .inl (fun _ => 0))), (q 4, .inl (T 0, 5, .inl (fun _ => 0)))]
def ShV (T : Nat → ClassId) (h : Nat) (w : va_W) : Prop := ∃ a : Nat → Nat, a 1 = h ∧ w = wVe T a
def ShU (T : Nat → ClassId) (h : Nat) (w : va_W) : Prop := ∃ a : Nat → Nat, a 6 = h ∧ w = wUs T a
def ShS (T : Nat → ClassId) (h : Nat) (w : va_W) : Prop := ∃ a : Nat → Nat, a 13 = h ∧ w = wSh T a
def ShO (T : Nat → ClassId) (h : Nat) (w : va_W) : Prop := ∃ q : Nat → Nat, q 2 = h ∧ w = wOr T q
def ShC (T : Nat → ClassId) (h : Nat) (w : va_W) : Prop := ∃ a : Nat → Nat, a 0 = h ∧ w = wCal T a z0 zz
def ShM (T : Nat → ClassId) (h : Nat) (w : va_W) : Prop := ∃ (q a : Nat → Nat) (b : Nat → Nat → Nat), q 0 = h ∧ w = wMain T q a z0 zz b (fun _ => z0) (fun _ => zz) 0 (fun _ => 0) 0 0 (-1) 0 (fun _ => 0) 0
/-- the cells as they are made, in the order of the system's world -/
theorem main_perm {h0 C s O B0 B1 B2 B3 : va_W} : ((((((((h0 ++ C) ++ s) ++ O) ++ B0) ++ B1) ++ B2) ++ B3)).Perm (h0 ++ (s ++ (O ++ (C ++ (B0 ++ (B1 ++ (B2 ++ B3))))))) := by
  rw [List.append_assoc, List.append_assoc, List.append_assoc, List.append_assoc, List.append_assoc, List.append_assoc]
  refine List.Perm.append_left _ ?_
  exact (List.perm_append_comm_assoc C s _).trans (List.Perm.append_left _ (List.perm_append_comm_assoc C O _))
theorem D_tl {A : Nat → Prop} {X w : va_W} (hD : va_D A (X ++ w)) : va_D A w := D_mid (Y := []) (by rw [List.append_nil]; exact hD)
end CTOR
