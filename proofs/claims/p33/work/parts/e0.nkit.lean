/-! my kit, 20: contracts of calls that don't throw; a call that leaves the heap as it was costs no room -/
section NKIT
variable {l : Launch} {G : va_G} {T : Nat → ClassId} {sa : Nat → Nat} {A9 : Nat → Prop} {H : Heap}
theorem vx_to {y : MethodName} {ws : List Cond} {rm : Room} {Pc : Array Value → State → Prop} {Qc Qd : Array Value → State → Outcome → State → Prop} {XC : String → State → State → Prop} {mc ms : Nat} {free : Addr → Prop} (hM : vx_Met l y ws rm Pc Qc XC mc ms free) (hX : ∀ E st t, ¬ XC E st t) (hQ : ∀ a st o t, Qc a st o t → Qd a st o t) : Met l y ws rm Pc Qd mc ms free := by
  intro p e ha hc hk s m args below hf happ hp hK
  obtain ⟨n, o, h1, h2, h3, h4⟩ := hM p e ha hc hk s m args below hf happ hp hK
  refine ⟨n, o, h1, h2, h3, ?_⟩
  rcases h4 with ⟨hq, hL⟩ | ⟨q, -, E, ce, L, hx, -⟩
  · exact ⟨hQ _ _ _ _ hq, hL⟩
  · exact (hX _ _ _ hx).elim
/-- a method that reads alone, and returns -/
abbrev rn (l : Launch) (y : MethodName) (ws : List Cond) (fr lc k : Nat) (as : List Value) (G : va_G) (T : Nat → ClassId) (sa : Nat → Nat) (A : Nat → Prop) (H : Heap) (Post : Option Value → Prop) : Prop :=
  Met l y ws (rmx fr lc k) (va_Pc as (at1 G T sa A H)) (rxQ Post) k (6 * k) (fun _ => False)
/-- a method that writes into a world of its own, and returns -/
abbrev wn (l : Launch) (y : MethodName) (ws : List Cond) (fr lc k : Nat) (as : List Value) (G : va_G) (T : Nat → ClassId) (sa : Nat → Nat) (A : Nat → Prop) (H : Heap) (w : va_W) (Post : Option Value → Heap → Prop) : Prop :=
  Met l y ws (rmx fr lc k) (va_Pc as (at1 G T sa A H)) (muQ H w Post) k (6 * k) (va_A w H.size)
theorem fc0 {F : Nat} (h : F = 0) (E : String) : ¬ fcE F E := by
  subst h
  rintro (q | q | q) <;> exact absurd q.1 (by decide)
theorem rn_rx {y : MethodName} {ws : List Cond} {fr lc k : Nat} {as : List Value} {F : Nat} {x v : Option Value} (hM : rx l y ws fr lc k as G T sa A9 H (fun v9 => F = 0 ∧ v9 = x) (fcE F)) (hF : F = 0) (hx : x = v) : rn l y ws fr lc k as G T sa A9 H (fun v9 => v9 = v) :=
  vx_to hM (fun E st t h => fc0 hF E h.1) (fun a st o t ⟨v9, e, h, hh⟩ => ⟨v9, e, h.2.trans hx, hh⟩)
theorem wn_tx {y : MethodName} {ws : List Cond} {fr lc k : Nat} {as : List Value} {F : Nat} {w : va_W} {P Post : Option Value → Heap → Prop} (hM : txm l y ws fr lc k as G T sa A9 H w P (fcE F)) (hF : F = 0) (hx : ∀ v9 H9, P v9 H9 → Post v9 H9) : wn l y ws fr lc k as G T sa A9 H w Post :=
  vx_to hM (fun E st t h => fc0 hF E h.1) (fun a st o t ⟨v9, e, h, hh⟩ => ⟨v9, e, hx _ _ h, hh⟩)
theorem stand_back {p : Program} {e : Env} {R : Room} {s : State} {m : MethodId} {args : Array Value} {below : List Frame} {meth : Method} {c : Code} {T0 T1 : State} {L0 L1 : List Loc} {c0 c1 n0 n1 : Nat} (X : Stand p l e R s m args below meth c T0 L0 c0 n0) (X1 : Stand p l e R s m args below meth c T1 L1 c1 n1) (h : T1.heap = T0.heap) : Stand p l e R s m args below meth c T1 L0 c0 n0 := by
  obtain ⟨a1, a2, a3, a4, a5, a6⟩ := X1.same
  obtain ⟨b1, b2, b3, b4, b5, b6⟩ := X.same
  have hz : (T1.setVm s.vm).heap = (T0.setVm s.vm).heap := h
  exact { X1 with same := ⟨a1, a2, by rw [hz]; exact b3, a4, by rw [hz]; exact b5, by rw [hz]; exact b6⟩ }
section NCALL
variable {p : Program} {e : Env} {R : Room} {s : State} {m : MethodId} {args : Array Value} {below : List Frame} {meth : Method} {c : Code} {locs : List Loc} {cells slots : Nat} {Q : State → Prop}
variable {y : MethodName} {bytes cc : ByteArray} {maxL nL n index fr lc k pc : Nat} {ret : Option FieldType} {ws ws' : List Cond} {Ts : List Cond} {own C : String} {b : Addr} {As rest st : List Value} {ls : Array Slot}
theorem rn_V {Post : Option Value → Prop} (S : CallFix p m c cc nL s args Ts own) (hk : kx G T s) (ht : thr sa A9 s H) (hM : rn l y ws fr lc k (.ref b :: As) G T sa A9 H Post)
    (hT : GoodIn Ts (wsV own index C y ws)) (hw : ws = Cond.code y bytes maxL ret :: ws')
    (hd : y.cls = C ∧ y.cls ≠ "java/lang/invoke/MethodHandle" ∧ y.cls ≠ "java/lang/invoke/VarHandle" ∧ (parseMethodDescriptor y.desc).map (fun d => d.parameters.length) = some n) (hR : fr + 1 ≤ R.frames ∧ 8 + (maxL + 11) + lc ≤ R.locals)
    {w : va_W} (hP : va_P G vwCl w H) (q0 : Nat) {ci : Nat} {fs : List Value} {q : vw_C} (hc : vwCl[ci]? = some q) (he : w[q0]? = some (b, .inr (ci, fs))) (hC : q.1 = C)
    (hn : As.length = n) (hl : ls.size = nL) (hst : st = As.reverse ++ .ref b :: rest) (hcat : (rest.map fun v => v.category).sum ≤ 8) (hdg : decode cc pc = .ok (.invokevirtual index, 3)) (hf : cells + k ≤ R.cells ∧ slots + 6 * k ≤ R.slots)
    (kk : ∀ v : Option Value, Post v → W p l e R s m args below meth c H locs cells slots Q (F0 m (pc + 3) ls (v.toList ++ rest))) : W p l e R s m args below meth c H locs cells slots Q (F0 m pc ls st) := by
  subst hst
  have h0 : 2 * (F0 m pc ls (As.reverse ++ .ref b :: rest)).monitorRoom = 0 := rfl
  have hr := va_runV (e := e) (below := below) (meth := meth) (H := H) (locs := locs) (cells := cells) (slots := slots) (rest := rest) (g := F0 m pc ls (As.reverse ++ .ref b :: rest)) S hM (cwV n S.2.2.2.2 hT hw rfl rfl hd hR) ⟨at1_blind, hC ▸ va_recv hk.1 hP hc he, fun U hU hW => ⟨rfl, hU, hk.warm hW, ht.warm hW⟩⟩ rfl hn hl rfl (by omega) hdg hf
  intro Z hZ X
  obtain ⟨v, st₀, t, T', L, g0, X', hL, e1, -, ⟨v2, hv, hp, hh⟩, st⟩ := hr Z hZ X
  cases hv
  have hT' : T'.heap = H := by rw [e1, hh, g0]
  obtain ⟨t2, a1, b1⟩ := kk v hp T' hT' (stand_back X X' (hT'.trans hZ.symm))
  exact ⟨t2, st t2 a1, b1⟩
theorem rn_S {Post : Option Value → Prop} (S : CallFix p m c cc nL s args Ts own) (hk : kx G T s) (ht : thr sa A9 s H) (hM : rn l y ws fr lc k As G T sa A9 H Post)
    (hT : GoodIn Ts (va_wsS own index y ws)) (hw : ws = Cond.code y bytes maxL ret :: ws')
    (hd : y.cls ≠ "java/lang/invoke/MethodHandle" ∧ y.cls ≠ "java/lang/invoke/VarHandle" ∧ (parseMethodDescriptor y.desc).map (fun d => d.parameters.length) = some n) (hR : fr + 1 ≤ R.frames ∧ 8 + (maxL + 11) + lc ≤ R.locals)
    (hn : As.length = n) (hl : ls.size = nL) (hst : st = As.reverse ++ rest) (hcat : (rest.map fun v => v.category).sum ≤ 8) (hdg : decode cc pc = .ok (.invokestatic index, 3)) (hf : cells + k ≤ R.cells ∧ slots + 6 * k ≤ R.slots)
    (kk : ∀ v : Option Value, Post v → W p l e R s m args below meth c H locs cells slots Q (F0 m (pc + 3) ls (v.toList ++ rest))) : W p l e R s m args below meth c H locs cells slots Q (F0 m pc ls st) := by
  subst hst
  have h0 : 2 * (F0 m pc ls (As.reverse ++ rest)).monitorRoom = 0 := rfl
  have hr := va_runS (e := e) (below := below) (meth := meth) (H := H) (locs := locs) (cells := cells) (slots := slots) (rest := rest) (g := F0 m pc ls (As.reverse ++ rest)) S hM (va_cwS n S.2.2.2.2 hT hw rfl rfl hd hR) ⟨at1_blind, fun U hU hW => ⟨rfl, hU, hk.warm hW, ht.warm hW⟩⟩ rfl hn hl rfl (by omega) hdg hf
  intro Z hZ X
  obtain ⟨v, st₀, t, T', L, g0, X', hL, e1, -, ⟨v2, hv, hp, hh⟩, st⟩ := hr Z hZ X
  cases hv
  have hT' : T'.heap = H := by rw [e1, hh, g0]
  obtain ⟨t2, a1, b1⟩ := kk v hp T' hT' (stand_back X X' (hT'.trans hZ.symm))
  exact ⟨t2, st t2 a1, b1⟩
theorem wn_S9 {wc : va_W} {A0 : Nat → Prop} {H0 : Heap} (hS : va_S A0 H0 H locs) (hFc : ∀ q, va_A wc H.size q → A0 q) {H1 : Heap} {L : List Loc} (hz : H.size ≤ H1.size) (hk2 : ∀ q : Nat, q < H.size → ¬ va_A wc H.size q → H1[q]? = H[q]?) (hL : ∀ z ∈ L, va_A wc H.size z.base) : va_S A0 H0 H1 (locs ++ L) :=
  ⟨Nat.le_trans hS.1 hz, fun q h1 h2 => by rw [hk2 q (Nat.lt_of_lt_of_le h1 hS.1) (fun z => h2 (hFc q z))]; exact hS.2.1 q h1 h2, fun q hq => by
    rcases List.mem_append.mp hq with h | h
    · exact hS.2.2 q h
    · exact hFc _ (hL q h)⟩
theorem wn_V {Post : Option Value → Heap → Prop} {w wc : va_W} {A0 : Nat → Prop} {H0 : Heap} (S : CallFix p m c cc nL s args Ts own) (hk : kx G T s) (ht : thr sa A9 s H) (hM : wn l y ws fr lc k (.ref b :: As) G T sa A9 H wc Post)
    (hT : GoodIn Ts (wsV own index C y ws)) (hw : ws = Cond.code y bytes maxL ret :: ws')
    (hd : y.cls = C ∧ y.cls ≠ "java/lang/invoke/MethodHandle" ∧ y.cls ≠ "java/lang/invoke/VarHandle" ∧ (parseMethodDescriptor y.desc).map (fun d => d.parameters.length) = some n) (hR : fr + 1 ≤ R.frames ∧ 8 + (maxL + 11) + lc ≤ R.locals)
    (hP : va_P G vwCl w H) (q0 : Nat) {ci : Nat} {fs : List Value} {q : vw_C} (hc : vwCl[ci]? = some q) (he : w[q0]? = some (b, .inr (ci, fs))) (hC : q.1 = C)
    (hn : As.length = n) (hl : ls.size = nL) (hst : st = As.reverse ++ .ref b :: rest) (hcat : (rest.map fun v => v.category).sum ≤ 8) (hdg : decode cc pc = .ok (.invokevirtual index, 3)) (hf : cells + k ≤ R.cells ∧ slots + 6 * k ≤ R.slots)
    (hS : va_S A0 H0 H locs) (hFc : ∀ q, va_A wc H.size q → A0 q)
    (kk : ∀ (v : Option Value) (H1 : Heap) (locs1 : List Loc), Post v H1 → H.size ≤ H1.size → (∀ q : Nat, q < H.size → ¬ va_A wc H.size q → H1[q]? = H[q]?) → va_S A0 H0 H1 locs1 → W p l e R s m args below meth c H1 locs1 (cells + k) (slots + 6 * k) Q (F0 m (pc + 3) ls (v.toList ++ rest))) : W p l e R s m args below meth c H locs cells slots Q (F0 m pc ls st) := by
  subst hst
  have h0 : 2 * (F0 m pc ls (As.reverse ++ .ref b :: rest)).monitorRoom = 0 := rfl
  have hr := va_runV (e := e) (below := below) (meth := meth) (H := H) (locs := locs) (cells := cells) (slots := slots) (rest := rest) (g := F0 m pc ls (As.reverse ++ .ref b :: rest)) S hM (cwV n S.2.2.2.2 hT hw rfl rfl hd hR) ⟨at1_blind, hC ▸ va_recv hk.1 hP hc he, fun U hU hW => ⟨rfl, hU, hk.warm hW, ht.warm hW⟩⟩ rfl hn hl rfl (by omega) hdg hf
  intro Z hZ X
  obtain ⟨v, st₀, t, T', L, g0, X', hL, e1, -, ⟨v2, hv, hp, hz, hk2⟩, st⟩ := hr Z hZ X
  cases hv
  rw [g0] at hz hk2
  have hz2 : H.size ≤ T'.heap.size := by rw [e1]; exact hz
  have hk3 : ∀ q : Nat, q < H.size → ¬ va_A wc H.size q → T'.heap[q]? = H[q]? := fun q h1 h2 => by rw [e1]; exact hk2 q h1 h2
  obtain ⟨t2, a1, b1⟩ := kk v T'.heap (locs ++ L) (by rw [e1]; exact hp) hz2 hk3 (wn_S9 hS hFc hz2 hk3 hL) T' rfl X'
  exact ⟨t2, st t2 a1, b1⟩
theorem wn_S {Post : Option Value → Heap → Prop} {wc : va_W} {A0 : Nat → Prop} {H0 : Heap} (S : CallFix p m c cc nL s args Ts own) (hk : kx G T s) (ht : thr sa A9 s H) (hM : wn l y ws fr lc k As G T sa A9 H wc Post)
    (hT : GoodIn Ts (va_wsS own index y ws)) (hw : ws = Cond.code y bytes maxL ret :: ws')
    (hd : y.cls ≠ "java/lang/invoke/MethodHandle" ∧ y.cls ≠ "java/lang/invoke/VarHandle" ∧ (parseMethodDescriptor y.desc).map (fun d => d.parameters.length) = some n) (hR : fr + 1 ≤ R.frames ∧ 8 + (maxL + 11) + lc ≤ R.locals)
    (hn : As.length = n) (hl : ls.size = nL) (hst : st = As.reverse ++ rest) (hcat : (rest.map fun v => v.category).sum ≤ 8) (hdg : decode cc pc = .ok (.invokestatic index, 3)) (hf : cells + k ≤ R.cells ∧ slots + 6 * k ≤ R.slots)
    (hS : va_S A0 H0 H locs) (hFc : ∀ q, va_A wc H.size q → A0 q)
    (kk : ∀ (v : Option Value) (H1 : Heap) (locs1 : List Loc), Post v H1 → H.size ≤ H1.size → (∀ q : Nat, q < H.size → ¬ va_A wc H.size q → H1[q]? = H[q]?) → va_S A0 H0 H1 locs1 → W p l e R s m args below meth c H1 locs1 (cells + k) (slots + 6 * k) Q (F0 m (pc + 3) ls (v.toList ++ rest))) : W p l e R s m args below meth c H locs cells slots Q (F0 m pc ls st) := by
  subst hst
  have h0 : 2 * (F0 m pc ls (As.reverse ++ rest)).monitorRoom = 0 := rfl
  have hr := va_runS (e := e) (below := below) (meth := meth) (H := H) (locs := locs) (cells := cells) (slots := slots) (rest := rest) (g := F0 m pc ls (As.reverse ++ rest)) S hM (va_cwS n S.2.2.2.2 hT hw rfl rfl hd hR) ⟨at1_blind, fun U hU hW => ⟨rfl, hU, hk.warm hW, ht.warm hW⟩⟩ rfl hn hl rfl (by omega) hdg hf
  intro Z hZ X
  obtain ⟨v, st₀, t, T', L, g0, X', hL, e1, -, ⟨v2, hv, hp, hz, hk2⟩, st⟩ := hr Z hZ X
  cases hv
  rw [g0] at hz hk2
  have hz2 : H.size ≤ T'.heap.size := by rw [e1]; exact hz
  have hk3 : ∀ q : Nat, q < H.size → ¬ va_A wc H.size q → T'.heap[q]? = H[q]? := fun q h1 h2 => by rw [e1]; exact hk2 q h1 h2
  obtain ⟨t2, a1, b1⟩ := kk v T'.heap (locs ++ L) (by rw [e1]; exact hp) hz2 hk3 (wn_S9 hS hFc hz2 hk3 hL) T' rfl X'
  exact ⟨t2, st t2 a1, b1⟩
end NCALL
theorem rn_of {y : MethodName} {ws ws' : List Cond} {fr lc k : Nat} {as : List Value} {Post : Option Value → Prop} {cc : ByteArray} {maxL : Nat} {ret : FieldType} {own : String}
    (hy : plainName y.cls = true) (hw : ws = Cond.code y cc maxL (some ret) :: ws') (hown : y.cls = own) (hle : (lg_sl as).length ≤ maxL) (h9 : ∀ q, H.size ≤ q → A9 q)
    (body : ∀ (p : Program) (e : Env) (s : State) (m : MethodId) (below : List Frame) (meth : Method) (c : Code) (Q : State → Prop) (ls : Array Slot),
      CallFix p m c cc maxL s as.toArray ws own → kx G T s → thr sa (fun q => H.size ≤ q) s H → lv_has ls maxL (lv_args 0 as) →
      (∀ (v : Int32) (pc : Nat) (ls : Array Slot), Post (some (.int v)) → narrow ret (.int v) = .int v → decode cc pc = .ok (.ireturn, 1) → W p l e (rmx fr lc k) s m as.toArray below meth c H [] 0 0 Q (F0 m pc ls [.int v])) →
      W p l e (rmx fr lc k) s m as.toArray below meth c H [] 0 0 Q (F0 m 0 ls [])) : rn l y ws fr lc k as G T sa A9 H Post := by
  refine Met.ofW hy hw ?_
  intro p e s m args below meth c s₁ B hml hv
  obtain ⟨rfl, hH, hk, ht⟩ := hv
  subst hH
  have hts := atoms_spec (ws := ws) B.pre
  have ho : s.vm.findClass own = some m.cls := hown ▸ findClass_of_methodNamed B.named
  have hl := lv_entry as hle
  rw [lg_entry_eq]
  refine body p e s m below meth c _ _ ⟨B.exec, B.bytes, hml, ho, hts⟩ hk (ht.narrow h9) hl ?_
  intro v pc ls hp hn hd
  refine W.widen (k := k) (n := 6 * k) (Nat.zero_le _) (Nat.zero_le _) ?_
  exact W.zret B.exec B.bytes B.returns hn (fun t ht _ => ⟨_, rfl, hp, ht⟩) (fun _ h => by cases h) hd B.notSynchronized
theorem wn_of {y : MethodName} {ws ws' : List Cond} {fr lc k : Nat} {as : List Value} {w : va_W} {Post : Option Value → Heap → Prop} {cc : ByteArray} {maxL : Nat} {ret : FieldType} {own : String}
    (hy : plainName y.cls = true) (hw : ws = Cond.code y cc maxL (some ret) :: ws') (hown : y.cls = own) (hle : (lg_sl as).length ≤ maxL) (h9 : ∀ q, va_A w H.size q → A9 q) (hD : va_D (fun _ => True) w)
    (body : ∀ (p : Program) (e : Env) (s : State) (m : MethodId) (below : List Frame) (meth : Method) (c : Code) (Q : State → Prop) (ls : Array Slot) (A : Nat → Prop),
      CallFix p m c cc maxL s as.toArray ws own → kx G T s → thr sa A s H → lv_has ls maxL (lv_args 0 as) → va_D A w → va_S A H H [] → (∀ q, H.size ≤ q → A q) →
      (∀ (v : Int32) (H1 : Heap) (locs1 : List Loc) (pc i n : Nat) (ls : Array Slot), Post (some (.int v)) H1 → narrow ret (.int v) = .int v → va_S A H H1 locs1 → i ≤ k → n ≤ 6 * k → decode cc pc = .ok (.ireturn, 1) → W p l e (rmx fr lc k) s m as.toArray below meth c H1 locs1 i n Q (F0 m pc ls [.int v])) →
      W p l e (rmx fr lc k) s m as.toArray below meth c H [] 0 0 Q (F0 m 0 ls [])) : wn l y ws fr lc k as G T sa A9 H w Post := by
  refine Met.ofW hy hw ?_
  intro p e s m args below meth c s₁ B hml hv
  obtain ⟨rfl, hH, hk, ht⟩ := hv
  subst hH
  have hts := atoms_spec (ws := ws) B.pre
  have ho : s.vm.findClass own = some m.cls := hown ▸ findClass_of_methodNamed B.named
  have hl := lv_entry as hle
  rw [lg_entry_eq]
  refine body p e s m below meth c _ _ (va_A w s.heap.size) ⟨B.exec, B.bytes, hml, ho, hts⟩ hk (ht.narrow h9) hl hD.self va_S.rf (fun q h => Or.inr h) ?_
  intro v H1 locs1 pc i n ls hp hn hS hi hn2 hd
  refine W.widen hi hn2 ?_
  exact W.zret B.exec B.bytes B.returns hn (fun t ht _ => ⟨_, rfl, by rw [ht]; exact hp, hS.F ht⟩) hS.2.2 hd B.notSynchronized
/-- the three kinds of test that hold -/
theorem th_ok {k n : Nat} (hn : n < 2 ^ 31) (h : k < n) : thF (nI k) (nI n) = 0 := by unfold thF; rw [if_pos (isT_of hn h)]
theorem wi_ok {v a b : Int32} {k i j : Nat} (hv : v = nI k) (ha : a = nI i) (hb : b = nI j) (h1 : i ≤ k) (h2 : k ≤ j) (h3 : j < 2 ^ 31) : wiF v a b = 0 := by
  subst hv ha hb
  unfold wiF isW
  rw [if_pos]
  rw [Bool.and_eq_true, decide_eq_true_eq, decide_eq_true_eq]
  exact ⟨(nI_leI (by omega) (by omega)).mpr h1, (nI_leI (by omega) (by omega)).mpr h2⟩
theorem po_ok {b : Bool} (h : b = true) : poF (bI b) = 0 := by subst h; rfl
theorem dy_ok {k : Nat} (h : k ≤ 999) : dyF (nI k) = 0 := wi_ok (i := 0) (j := 999) rfl rfl rfl (Nat.zero_le _) h (by decide)
theorem isW_ok {v a b : Int32} {k i j : Nat} (hv : v = nI k) (ha : a = nI i) (hb : b = nI j) (h1 : i ≤ k) (h2 : k ≤ j) (h3 : j < 2 ^ 31) : isW v a b = true := by
  have h := wi_ok hv ha hb h1 h2 h3
  unfold wiF at h
  split at h
  · assumption
  · cases h
theorem sh_1 : ∀ n, n < 31 → (1 : Int32) <<< (nI n &&& 31) = nI (2 ^ n) := by decide +kernel
theorem sh_1m : ∀ n, n < 11 → ((1 : Int32) <<< (nI n &&& 31)) - 1 = nI (2 ^ n - 1) := by decide +kernel
theorem seF_ok {k n : Nat} (hn : n ≤ 10) (h : k < 2 ^ n) : seF (nI k) (nI n) = 0 := by
  have h2 : 2 ^ n ≤ 2 ^ 10 := Nat.pow_le_pow_right (by decide) hn
  unfold seF
  exact wi_ok (i := 0) (j := 2 ^ n - 1) rfl rfl (sh_1m n (by omega)) (Nat.zero_le _) (by omega) (by omega)
/-- numbers that a cell of the script selects -/
def lowN (v : Int32) (k : Nat) : Nat := (v.toBitVec.toNat % 2 ^ 31) % k
theorem lowN_lt (v : Int32) {k : Nat} (h : 0 < k) : lowN v k < k := Nat.mod_lt _ h
theorem lowN_eq (v : Int32) {k : Nat} (h0 : 0 < k) (hk : k < 2 ^ 31) : (v &&& 2147483647) - (v &&& 2147483647) / nI k * nI k = nI (lowN v k) := by
  rw [pk_and v 31 (by decide)]
  exact pk_rem (Nat.mod_lt _ (by decide)) h0 hk
theorem dcs {x : UInt64} (h : vf_n64 x) : Op.cmpValue (FP.dcmp x x) .l = 0 := by
  have h1 : FP.Core.dIsNaN x = false := Fl.noNaN64_no.mp h
  have h2 : FP.dcmp x x = some .eq := FP.Core.dcmp_self (fun q => by rw [(FP.Core.dIsNaN_iff x).mpr q] at h1; cases h1)
  rw [h2]; rfl
theorem vf_1 : vf_n64 FP.dconst1 := by unfold vf_n64 FP.dconst1; decide
theorem shr_self (N : Nat → Nat) (Z : Nat → Nat → Int32) (d : Int32) : Op.cmpValue (FP.dcmp (shr N Z d) (shr N Z d)) .l = 0 := by
  refine dcs ?_
  unfold shr
  split
  · exact vf_1
  · rename_i h; exact vf_div h
end NKIT
