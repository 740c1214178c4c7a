/-! my kit, 3: methods that may throw -/
section SKIT3
abbrev eI : String := "java/lang/IndexOutOfBoundsException"
abbrev eA : String := "java/lang/IllegalArgumentException"
abbrev eS : String := "java/lang/IllegalStateException"
abbrev eN : List String := ["java/lang/RuntimeException", "java/lang/Exception"]
/-- the words of throwing that are no good ones -/
def nx (U : State) : Prop := va_Nw (.declares (Bundle.initS "java/lang/RuntimeException")) U ∧ va_Nw (.declares (Bundle.initS "java/lang/Exception")) U ∧ va_Nw (.declares (Bundle.initS Bundle.tN)) U ∧ va_Nw (.castable eI eI) U ∧ va_Nw (.castable eA eA) U ∧ va_Nw (.castable eS eS) U
theorem nx.same {u U : State} (h : u.vm = U.vm) (k : nx u) : nx U := ⟨k.1.same rfl h, k.2.1.same rfl h, k.2.2.1.same rfl h, k.2.2.2.1.same rfl h, k.2.2.2.2.1.same rfl h, k.2.2.2.2.2.same rfl h⟩
theorem Nw_castw {E : String} {s U : State} (hW : s.WarmedH U.vm) (hZ : va_Nw (.castable E E) s) : va_Nw (.castable E E) U := va_tabs rfl (rfl : (s.setVm U.vm).vm = U.vm) (by rw [Cond.castable_setVm hW.alike]; exact hZ)
theorem nx.warm {s U : State} (hW : s.WarmedH U.vm) (k : nx s) : nx U := ⟨k.1.warmD hW, k.2.1.warmD hW, k.2.2.1.warmD hW, Nw_castw hW k.2.2.2.1, Nw_castw hW k.2.2.2.2.1, Nw_castw hW k.2.2.2.2.2⟩
def thr (sa : Nat → Nat) (A : Nat → Prop) (U : State) (H : Heap) : Prop := nx U ∧ vx_Zq Bundle.tN "UNASSIGNED_STACK" Bundle.steD A U H ∧ vx_Zq Bundle.tN "SUPPRESSED_SENTINEL" Bundle.listD A U H ∧
  vk_R RX5 235 "there is no such thing" (sa 0) U ∧ vk_R RX5 246 "an argument is out of range" (sa 1) U ∧ vk_R RX5 251 "this is not possible now" (sa 2) U
theorem thr.same {sa : Nat → Nat} {A : Nat → Prop} {u U : State} {H : Heap} (h : u.vm = U.vm) (k : thr sa A u H) : thr sa A U H :=
  ⟨k.1.same h, k.2.1.moved (by rw [h]; exact Vm.Alike.refl _), k.2.2.1.moved (by rw [h]; exact Vm.Alike.refl _), k.2.2.2.1.same h.symm, k.2.2.2.2.1.same h.symm, k.2.2.2.2.2.same h.symm⟩
theorem thr.warm {sa : Nat → Nat} {A : Nat → Prop} {s U : State} {H : Heap} (hW : s.WarmedH U.vm) (k : thr sa A s H) : thr sa A U H :=
  ⟨k.1.warm hW, k.2.1.moved hW.alike, k.2.2.1.moved hW.alike, k.2.2.2.1.warm hW, k.2.2.2.2.1.warm hW, k.2.2.2.2.2.warm hW⟩
theorem thr.kept {sa : Nat → Nat} {A : Nat → Prop} {U : State} {H H1 : Heap} (k : thr sa A U H) (hq : ∀ a : Nat, a < H.size → ¬ A a → H1[a]? = H[a]?) : thr sa A U H1 :=
  ⟨k.1, k.2.1.kept hq, k.2.2.1.kept hq, k.2.2.2⟩
theorem thr.narrow {sa : Nat → Nat} {A B : Nat → Prop} {U : State} {H : Heap} (k : thr sa A U H) (hAB : ∀ q, B q → A q) : thr sa B U H :=
  ⟨k.1, k.2.1.narrow hAB, k.2.2.1.narrow hAB, k.2.2.2⟩
def at1 (G : va_G) (T : Nat → ClassId) (sa : Nat → Nat) (A : Nat → Prop) (H : Heap) : State → Prop := fun U => U.heap = H ∧ kx G T U ∧ thr sa A U H
theorem at1_blind {as : List Value} {G : va_G} {T : Nat → ClassId} {sa : Nat → Nat} {A : Nat → Prop} {H : Heap} : FrameBlind (va_Pc as (at1 G T sa A H)) := fun _ _ _ _ q => ⟨q.1, q.2.1, q.2.2.1.same rfl, q.2.2.2.same rfl⟩
/-- it throws E, and nothing else has changed -/
def txX (PX : String → Prop) : String → State → State → Prop := fun E st t => PX E ∧ st.heap.size ≤ t.heap.size ∧ ∀ q : Nat, q < st.heap.size → t.heap[q]? = st.heap[q]?
abbrev rmx (fr lc k : Nat) : Room := { frames := fr, cells := k, slots := 6 * k, locals := lc }
def rxQ (Post : Option Value → Prop) : Array Value → State → Outcome → State → Prop := fun _ st o t => ∃ v, o = .returned v ∧ Post v ∧ t.heap = st.heap
/-- a method that reads, or throws -/
abbrev rx (l : Launch) (y : MethodName) (ws : List Cond) (fr lc k : Nat) (as : List Value) (G : va_G) (T : Nat → ClassId) (sa : Nat → Nat) (A : Nat → Prop) (H : Heap) (Post : Option Value → Prop) (PX : String → Prop) : Prop :=
  vx_Met l y ws (rmx fr lc k) (va_Pc as (at1 G T sa A H)) (rxQ Post) (txX PX) k (6 * k) (fun _ => False)
variable {l : Launch} {G : va_G} {T : Nat → ClassId} {sa : Nat → Nat} {A9 : Nat → Prop} {H : Heap}
theorem rx_of {y : MethodName} {ws ws' : List Cond} {fr lc k : Nat} {as : List Value} {Post : Option Value → Prop} {PX : String → Prop} {cc : ByteArray} {maxL : Nat} {ret : Option FieldType} {own : String}
    (hy : plainName y.cls = true) (hw : ws = Cond.code y cc maxL ret :: ws') (hown : y.cls = own) (hle : (lg_sl as).length ≤ maxL) (h9 : ∀ q, H.size ≤ q → A9 q)
    (body : ∀ (p : Program) (e : Env) (s : State) (m : MethodId) (below : List Frame) (meth : Method) (c : Code) (ls : Array Slot), s.heap = H →
      CallFix p m c cc maxL s as.toArray ws own → kx G T s → thr sa (fun q => H.size ≤ q) s H → (∀ x ∈ c.exceptionTable.toList, False) → meth.locks = false → lv_has ls maxL (lv_args 0 as) →
      (∀ (v : Int32) (ty : FieldType) (pc i n : Nat) (ls : Array Slot), ret = some ty → narrow ty (.int v) = .int v → Post (some (.int v)) → i ≤ k → n ≤ 6 * k → decode cc pc = .ok (.ireturn, 1) → W p l e (rmx fr lc k) s m as.toArray below meth c H [] i n (vx_MQ below (rxQ Post) (txX PX) as.toArray s k (6 * k) (fun _ => False)) (F0 m pc ls [.int v])) →
      (∀ (v : UInt64) (pc i n : Nat) (ls : Array Slot), ret = some .double → Post (some (.double v)) → i ≤ k → n ≤ 6 * k → decode cc pc = .ok (.dreturn, 1) → W p l e (rmx fr lc k) s m as.toArray below meth c H [] i n (vx_MQ below (rxQ Post) (txX PX) as.toArray s k (6 * k) (fun _ => False)) (F0 m pc ls [.double v])) →
      (∀ (pc i n : Nat) (ls : Array Slot), ret = none → Post none → i ≤ k → n ≤ 6 * k → decode cc pc = .ok (.return_, 1) → W p l e (rmx fr lc k) s m as.toArray below meth c H [] i n (vx_MQ below (rxQ Post) (txX PX) as.toArray s k (6 * k) (fun _ => False)) (F0 m pc ls [])) →
      (∀ (E : String) (ce : Cell) (q pc i n : Nat) (ls : Array Slot) (rest : List Value) (H1 : Heap), PX E → H1[q]? = some ce → ce.vm = .none → s.vm.findClass E = some ce.cls → H.size ≤ H1.size → (∀ a : Nat, a < H.size → H1[a]? = H[a]?) → i ≤ k → n ≤ 6 * k → vx_W p l e (rmx fr lc k) s m as.toArray below meth c H1 [] i n (vx_MQ below (rxQ Post) (txX PX) as.toArray s k (6 * k) (fun _ => False)) (F0 m pc ls rest) q) →
      W p l e (rmx fr lc k) s m as.toArray below meth c H [] 0 0 (vx_MQ below (rxQ Post) (txX PX) as.toArray s k (6 * k) (fun _ => False)) (F0 m 0 ls [])) : rx l y ws fr lc k as G T sa A9 H Post PX := by
  refine vx_ofW hy hw ?_
  intro p e s m args below meth c s₁ B hml hnt hv
  obtain ⟨rfl, hH, hk, ht⟩ := hv
  subst hH
  have hts := atoms_spec (ws := ws) B.pre
  have ho : s.vm.findClass own = some m.cls := hown ▸ findClass_of_methodNamed B.named
  have hl := lv_entry as hle
  rw [lg_entry_eq]
  refine body p e s m below meth c _ rfl ⟨B.exec, B.bytes, hml, ho, hts⟩ hk (ht.narrow h9) hnt B.notSynchronized hl ?_ ?_ ?_ ?_
  · intro v ty pc i n ls hr hn hp hi hn2 hd
    refine vx_ret (W.widen hi hn2 ?_)
    exact W.zret B.exec B.bytes (B.returns.trans hr) hn (fun t ht _ => ⟨_, rfl, hp, ht⟩) (fun _ h => by cases h) hd B.notSynchronized
  · intro v pc i n ls hr hp hi hn2 hd
    refine vx_ret (W.widen hi hn2 ?_)
    exact W.dret B.exec B.bytes (B.returns.trans hr) (fun t ht _ => ⟨_, rfl, hp, ht⟩) (fun _ h => by cases h) hd B.notSynchronized
  · intro pc i n ls hr hp hi hn2 hd
    refine vx_ret (W.widen hi hn2 ?_)
    exact W.vret B.exec B.bytes (B.returns.trans hr) (fun t ht _ => ⟨_, rfl, hp, ht⟩) (fun _ h => by cases h) hd B.notSynchronized
  · intro E ce q pc i n ls rest H1 hp hq hv hc hz hk1 hi hn2
    exact vx_out (fun x hx => (hnt x hx).elim) B.notSynchronized hq hv hc (fun t ht _ => ⟨hp, by rw [ht]; exact hz, fun a ha => by rw [ht]; exact hk1 a ha⟩) (fun _ h => by cases h) hi hn2
section RXC
variable {p : Program} {e : Env} {R : Room} {s : State} {m : MethodId} {args : Array Value} {below : List Frame} {meth : Method} {c : Code} {locs : List Loc} {cells slots : Nat} {Q : State → Prop}
variable {y : MethodName} {bytes cc : ByteArray} {maxL nL n index fr lc k pc : Nat} {ret : Option FieldType} {ws ws' : List Cond} {Post : Option Value → Prop} {PX : String → Prop} {Ts : List Cond} {own C : String} {b : Addr} {As rest st : List Value} {ls : Array Slot}
theorem rx_k {a : Array Value} (hr : vx_Run p l e R s m args below meth c H locs cells slots k (6 * k) (F0 m pc ls st) rest (rxQ Post a) (txX PX) (fun _ => False))
    (kx : ∀ (E : String) (ce : Cell) (q : Nat) (H1 : Heap), PX E → H1[q]? = some ce → ce.vm = .none → s.vm.findClass E = some ce.cls → H.size ≤ H1.size → (∀ a : Nat, a < H.size → H1[a]? = H[a]?) → vx_W p l e R s m args below meth c H1 locs (cells + k) (slots + 6 * k) Q (F0 m pc ls rest) q)
    (kk : ∀ v : Option Value, Post v → W p l e R s m args below meth c H locs (cells + k) (slots + 6 * k) Q (F0 m (pc + 3) ls (v.toList ++ rest))) : W p l e R s m args below meth c H locs cells slots Q (F0 m pc ls st) := by
  intro Z hZ X
  rcases hr Z hZ X with ⟨v, st₀, t, T', L, h0, X', hL, e1, -, ⟨v2, hv, hp, hh⟩, st⟩ | ⟨q, st₀, t, T', L, E, ce, h0, X', hL, e1, -, ⟨hp, hz, hk1⟩, hce, hcv, hcl, st⟩
  · cases hv
    obtain ⟨t2, a1, b1⟩ := kk v hp T' (by rw [e1, hh, h0]) (Stand.forget X' (fun q h => (hL q h).elim))
    exact ⟨t2, st t2 a1, b1⟩
  · rw [h0] at hz hk1
    obtain ⟨t2, a1, b1⟩ := kx E ce q T'.heap hp (by rw [e1]; exact hce) hcv hcl (by rw [e1]; exact hz) (fun a ha => by rw [e1]; exact hk1 a ha) T' rfl (Stand.forget X' (fun q h => (hL q h).elim))
    exact ⟨t2, st.trans a1, b1⟩
theorem rx_S (S : CallFix p m c cc nL s args Ts own) (hk : kx G T s) (ht : thr sa A9 s H) (hM : rx l y ws fr lc k As G T sa A9 H Post PX)
    (hT : GoodIn Ts (va_wsS own index y ws)) (hw : ws = Cond.code y bytes maxL ret :: ws')
    (hd : y.cls ≠ "java/lang/invoke/MethodHandle" ∧ y.cls ≠ "java/lang/invoke/VarHandle" ∧ (parseMethodDescriptor y.desc).map (fun d => d.parameters.length) = some n) (hR : fr + 1 ≤ R.frames ∧ 8 + (maxL + 11) + lc ≤ R.locals)
    (hn : As.length = n) (hl : ls.size = nL) (hst : st = As.reverse ++ rest) (hcat : (rest.map fun v => v.category).sum ≤ 8) (hdg : decode cc pc = .ok (.invokestatic index, 3)) (hf : cells + k ≤ R.cells ∧ slots + 6 * k ≤ R.slots)
    (kx : ∀ (E : String) (ce : Cell) (q : Nat) (H1 : Heap), PX E → H1[q]? = some ce → ce.vm = .none → s.vm.findClass E = some ce.cls → H.size ≤ H1.size → (∀ a : Nat, a < H.size → H1[a]? = H[a]?) → vx_W p l e R s m args below meth c H1 locs (cells + k) (slots + 6 * k) Q (F0 m pc ls rest) q)
    (kk : ∀ v : Option Value, Post v → W p l e R s m args below meth c H locs (cells + k) (slots + 6 * k) Q (F0 m (pc + 3) ls (v.toList ++ rest))) : W p l e R s m args below meth c H locs cells slots Q (F0 m pc ls st) := by
  subst hst
  have h0 : 2 * (F0 m pc ls (As.reverse ++ rest)).monitorRoom = 0 := rfl
  exact rx_k (vx_runS S hM (va_cwS n S.2.2.2.2 hT hw rfl rfl hd hR) ⟨at1_blind, fun U hU hW => ⟨rfl, hU, hk.warm hW, ht.warm hW⟩⟩ rfl hn hl rfl (by omega) hdg hf) kx kk
theorem rx_V (S : CallFix p m c cc nL s args Ts own) (hk : kx G T s) (ht : thr sa A9 s H) (hM : rx l y ws fr lc k (.ref b :: As) G T sa A9 H Post PX)
    (hT : GoodIn Ts (wsV own index C y ws)) (hw : ws = Cond.code y bytes maxL ret :: ws')
    (hd : y.cls = C ∧ y.cls ≠ "java/lang/invoke/MethodHandle" ∧ y.cls ≠ "java/lang/invoke/VarHandle" ∧ (parseMethodDescriptor y.desc).map (fun d => d.parameters.length) = some n) (hR : fr + 1 ≤ R.frames ∧ 8 + (maxL + 11) + lc ≤ R.locals)
    {w : va_W} (hP : va_P G vwCl w H) (q0 : Nat) {ci : Nat} {fs : List Value} {q : vw_C} (hc : vwCl[ci]? = some q) (he : w[q0]? = some (b, .inr (ci, fs))) (hC : q.1 = C)
    (hn : As.length = n) (hl : ls.size = nL) (hst : st = As.reverse ++ .ref b :: rest) (hcat : (rest.map fun v => v.category).sum ≤ 8) (hdg : decode cc pc = .ok (.invokevirtual index, 3)) (hf : cells + k ≤ R.cells ∧ slots + 6 * k ≤ R.slots)
    (kx : ∀ (E : String) (ce : Cell) (q : Nat) (H1 : Heap), PX E → H1[q]? = some ce → ce.vm = .none → s.vm.findClass E = some ce.cls → H.size ≤ H1.size → (∀ a : Nat, a < H.size → H1[a]? = H[a]?) → vx_W p l e R s m args below meth c H1 locs (cells + k) (slots + 6 * k) Q (F0 m pc ls rest) q)
    (kk : ∀ v : Option Value, Post v → W p l e R s m args below meth c H locs (cells + k) (slots + 6 * k) Q (F0 m (pc + 3) ls (v.toList ++ rest))) : W p l e R s m args below meth c H locs cells slots Q (F0 m pc ls st) := by
  subst hst
  have h0 : 2 * (F0 m pc ls (As.reverse ++ .ref b :: rest)).monitorRoom = 0 := rfl
  exact rx_k (vx_runV S hM (cwV n S.2.2.2.2 hT hw rfl rfl hd hR) ⟨at1_blind, hC ▸ va_recv hk.1 hP hc he, fun U hU hW => ⟨rfl, hU, hk.warm hW, ht.warm hW⟩⟩ rfl hn hl rfl (by omega) hdg hf) kx kk
end RXC
/-- the words of a throw -/
theorem thr_at {sa : Nat → Nat} {A : Nat → Prop} {s : State} {H : Heap} {args : Array Value} (k : thr sa A s H) {ic : Nat} {E : String}
    (h2 : ∀ w ∈ (vx_atS RX5 ic E eN).filter (fun w => !goodWord w), w ∈ [Cond.declares (Bundle.initS "java/lang/RuntimeException"), .declares (Bundle.initS "java/lang/Exception"), .declares (Bundle.initS Bundle.tN), .castable E E]) (hc : va_Nw (.castable E E) s)
    (h1 : ∀ w ∈ (vx_atS RX5 ic E eN).filter goodWord, w.before args s = true) : ∀ w ∈ vx_atS RX5 ic E eN, w.before args s = true :=
  vx_hat h1 h2 (vx_c (k.1.1.use rfl) (vx_c (k.1.2.1.use rfl) (vx_c (k.1.2.2.1.use rfl) (vx_c (hc.use rfl) vx_n))))
theorem th2I : ∀ w ∈ (vx_atS RX5 237 eI eN).filter (fun w => !goodWord w), w ∈ [Cond.declares (Bundle.initS "java/lang/RuntimeException"), .declares (Bundle.initS "java/lang/Exception"), .declares (Bundle.initS Bundle.tN), .castable eI eI] := by decide +kernel
theorem th2A : ∀ w ∈ (vx_atS RX5 248 eA eN).filter (fun w => !goodWord w), w ∈ [Cond.declares (Bundle.initS "java/lang/RuntimeException"), .declares (Bundle.initS "java/lang/Exception"), .declares (Bundle.initS Bundle.tN), .castable eA eA] := by decide +kernel
theorem th2S : ∀ w ∈ (vx_atS RX5 253 eS eN).filter (fun w => !goodWord w), w ∈ [Cond.declares (Bundle.initS "java/lang/RuntimeException"), .declares (Bundle.initS "java/lang/Exception"), .declares (Bundle.initS Bundle.tN), .castable eS eS] := by decide +kernel
theorem thgI : ∀ w ∈ Cond.classLink RX5 233 eI :: Cond.initialized eI :: vx_atS RX5 237 eI eN, vx_ot w = true := by decide +kernel
theorem thgA : ∀ w ∈ Cond.classLink RX5 244 eA :: Cond.initialized eA :: vx_atS RX5 248 eA eN, vx_ot w = true := by decide +kernel
theorem thgS : ∀ w ∈ Cond.classLink RX5 249 eS :: Cond.initialized eS :: vx_atS RX5 253 eS eN, vx_ot w = true := by decide +kernel
theorem thfI : Bundle.fit eI = true := by decide +kernel
theorem thfA : Bundle.fit eA = true := by decide +kernel
theorem thfS : Bundle.fit eS = true := by decide +kernel
theorem thfN : ∀ n ∈ eN, Bundle.fit n = true := by decide +kernel
end SKIT3
