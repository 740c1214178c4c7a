/-! my kit, 11: calls that may throw and write; methods that catch -/
section WRP
variable {l : Launch} {G : va_G} {T : Nat → ClassId} {sa : Nat → Nat} {A9 : Nat → Prop} {H : Heap}
/-- no one of the three is another -/
def ncs (U : State) : Prop := va_Nc eS eA U ∧ va_Nc eI eA U ∧ va_Nc eA eS U ∧ va_Nc eI eS U ∧ va_Nc eA eI U ∧ va_Nc eS eI U
theorem ncs.alike {u U : State} (h : u.vm.Alike U.vm) (k : ncs u) : ncs U := ⟨va_Nc.moved h k.1, va_Nc.moved h k.2.1, va_Nc.moved h k.2.2.1, va_Nc.moved h k.2.2.2.1, va_Nc.moved h k.2.2.2.2.1, va_Nc.moved h k.2.2.2.2.2⟩
def at4 (G : va_G) (T : Nat → ClassId) (sa : Nat → Nat) (A : Nat → Prop) (H : Heap) : State → Prop := fun U => U.heap = H ∧ kx G T U ∧ thr sa A U H ∧ ncs U
theorem at4_blind {as : List Value} {A : Nat → Prop} : FrameBlind (va_Pc as (at4 G T sa A H)) := fun _ _ _ _ q => ⟨q.1, q.2.1, q.2.2.1.same rfl, q.2.2.2.1.same rfl, q.2.2.2.2.alike (Vm.Alike.refl _)⟩
abbrev lwr (l : Launch) (y : MethodName) (ws : List Cond) (fr lc k : Nat) (as : List Value) (G : va_G) (T : Nat → ClassId) (sa : Nat → Nat) (A : Nat → Prop) (H : Heap) (w : va_W) (Post : Option Value → Heap → Prop) : Prop :=
  Met l y ws (rmx fr lc k) (va_Pc as (at4 G T sa A H)) (muQ H w Post) k (6 * k) (va_A w H.size)
theorem lwr_of {y : MethodName} {ws ws' : List Cond} {fr lc k : Nat} {as : List Value} {w : va_W} {Post : Option Value → Heap → Prop} {cc : ByteArray} {maxL : Nat} {hh : List (Nat × Nat × Nat × Nat)} {own : String}
    (hy : plainName y.cls = true) (hw : ws = Cond.codeWith y cc maxL (some .int) hh :: ws') (hown : y.cls = own) (hle : (lg_sl as).length ≤ maxL) (h9 : ∀ q, H.size ≤ q → A9 q) (hD : va_D (fun _ => True) w)
    (body : ∀ (p : Program) (e : Env) (s : State) (m : MethodId) (below : List Frame) (meth : Method) (c : Code) (Q : State → Prop) (ls : Array Slot) (A : Nat → Prop),
      CallFix p m c cc maxL s as.toArray ws own → kx G T s → thr sa (fun q => H.size ≤ q) s H → ncs s → c.exceptionTable.toList = tableOf hh → lv_has ls maxL (lv_args 0 as) → va_D A w → va_S A H H [] → (∀ q, H.size ≤ q → A q) →
      (∀ (v : Int32) (pc i n : Nat) (ls : Array Slot) (H1 : Heap) (locs1 : List Loc), Post (some (.int v)) H1 → va_S A H H1 locs1 → i ≤ k → n ≤ 6 * k → decode cc pc = .ok (.ireturn, 1) → W p l e (rmx fr lc k) s m as.toArray below meth c H1 locs1 i n Q (F0 m pc ls [.int v])) →
      W p l e (rmx fr lc k) s m as.toArray below meth c H [] 0 0 Q (F0 m 0 ls [])) : lwr l y ws fr lc k as G T sa A9 H w Post := by
  refine va_MetW hy hw ?_
  intro p e s m args below meth c s₁ B hml hv
  obtain ⟨rfl, hH, hk, ht, hn⟩ := hv
  subst hH
  have hts := atoms_spec (ws := ws) B.pre
  have ho : s.vm.findClass own = some m.cls := hown ▸ findClass_of_methodNamed B.named
  have hl := lv_entry as hle
  rw [lg_entry_eq]
  refine body p e s m below meth c _ _ (va_A w s.heap.size) ⟨B.exec, B.bytes, hml, ho, hts⟩ hk (ht.narrow h9) hn (vx_table (x := y) B (hts _ (by rw [hw]; exact List.mem_cons_self))) hl hD.self va_S.rf (fun q h => Or.inr h) ?_
  intro v pc i n ls H1 locs1 hp hS hi hn2 hd
  refine W.widen hi hn2 ?_
  exact W.iret B.exec B.bytes B.returns (fun t ht _ => ⟨_, rfl, by rw [ht]; exact hp, hS.F ht⟩) hS.2.2 hd B.notSynchronized
section TXC
variable {p : Program} {e : Env} {R : Room} {s : State} {m : MethodId} {args : Array Value} {below : List Frame} {meth : Method} {c : Code} {locs : List Loc} {cells slots : Nat} {Q : State → Prop}
variable {y : MethodName} {bytes cc : ByteArray} {maxL nL n index fr lc k pc : Nat} {ret : Option FieldType} {ws ws' : List Cond} {Post : Option Value → Heap → Prop} {PX : String → Prop} {Ts : List Cond} {own C : String} {b : Addr} {As rest st : List Value} {ls : Array Slot}
theorem tx_V {w wc : va_W} {A0 : Nat → Prop} {H0 : Heap} (S : CallFix p m c cc nL s args Ts own) (hk : kx G T s) (ht : thr sa A9 s H) (hM : txm l y ws fr lc k (.ref b :: As) G T sa A9 H wc Post PX)
    (hT : GoodIn Ts (wsV own index C y ws)) (hw : ws = Cond.code y bytes maxL ret :: ws')
    (hd : y.cls = C ∧ y.cls ≠ "java/lang/invoke/MethodHandle" ∧ y.cls ≠ "java/lang/invoke/VarHandle" ∧ (parseMethodDescriptor y.desc).map (fun d => d.parameters.length) = some n) (hR : fr + 1 ≤ R.frames ∧ 8 + (maxL + 11) + lc ≤ R.locals)
    (hP : va_P G vwCl w H) (q0 : Nat) {ci : Nat} {fs : List Value} {q : vw_C} (hc : vwCl[ci]? = some q) (he : w[q0]? = some (b, .inr (ci, fs))) (hC : q.1 = C)
    (hn : As.length = n) (hl : ls.size = nL) (hst : st = As.reverse ++ .ref b :: rest) (hcat : (rest.map fun v => v.category).sum ≤ 8) (hdg : decode cc pc = .ok (.invokevirtual index, 3)) (hf : cells + k ≤ R.cells ∧ slots + 6 * k ≤ R.slots)
    (hS : va_S A0 H0 H locs) (hFc : ∀ q, va_A wc H.size q → A0 q)
    (kx9 : ∀ (E : String) (ce : Cell) (q : Nat) (H1 : Heap) (locs1 : List Loc), PX E → H1[q]? = some ce → ce.vm = .none → s.vm.findClass E = some ce.cls → H.size ≤ H1.size → (∀ a : Nat, a < H.size → H1[a]? = H[a]?) → va_S A0 H0 H1 locs1 → vx_W p l e R s m args below meth c H1 locs1 (cells + k) (slots + 6 * k) Q (F0 m pc ls rest) q)
    (kk : ∀ (v : Option Value) (H1 : Heap) (locs1 : List Loc), Post v H1 → H.size ≤ H1.size → (∀ q : Nat, q < H.size → ¬ va_A wc H.size q → H1[q]? = H[q]?) → va_S A0 H0 H1 locs1 → W p l e R s m args below meth c H1 locs1 (cells + k) (slots + 6 * k) Q (F0 m (pc + 3) ls (v.toList ++ rest))) : W p l e R s m args below meth c H locs cells slots Q (F0 m pc ls st) := by
  subst hst
  have h0 : 2 * (F0 m pc ls (As.reverse ++ .ref b :: rest)).monitorRoom = 0 := rfl
  have hr := vx_runV (e := e) (below := below) (meth := meth) (H := H) (locs := locs) (cells := cells) (slots := slots) (rest := rest) (g := F0 m pc ls (As.reverse ++ .ref b :: rest)) S hM (cwV n S.2.2.2.2 hT hw rfl rfl hd hR) ⟨at1_blind, hC ▸ va_recv hk.1 hP hc he, fun U hU hW => ⟨rfl, hU, hk.warm hW, ht.warm hW⟩⟩ rfl hn hl rfl (by omega) hdg hf
  have hL9 : ∀ {H1 : Heap} {L : List Loc}, H.size ≤ H1.size → (∀ q : Nat, q < H.size → ¬ va_A wc H.size q → H1[q]? = H[q]?) → (∀ z ∈ L, va_A wc H.size z.base) → va_S A0 H0 H1 (locs ++ L) := fun hz hk2 hL =>
    ⟨Nat.le_trans hS.1 hz, fun q h1 h2 => by rw [hk2 q (Nat.lt_of_lt_of_le h1 hS.1) (fun z => h2 (hFc q z))]; exact hS.2.1 q h1 h2, fun q hq => by
      rcases List.mem_append.mp hq with h | h
      · exact hS.2.2 q h
      · exact hFc _ (hL q h)⟩
  intro Z hZ X
  rcases hr Z hZ X with ⟨v, st₀, t, T', L, g0, X', hL, e1, -, ⟨v2, hv, hp, hz, hk2⟩, st⟩ | ⟨q, st₀, t, T', L, E, ce, g0, X', hL, e1, -, ⟨hp, hz, hk1⟩, hce, hcv, hcl, st⟩
  · cases hv
    rw [g0] at hz hk2
    have hz2 : H.size ≤ T'.heap.size := by rw [e1]; exact hz
    have hk3 : ∀ q : Nat, q < H.size → ¬ va_A wc H.size q → T'.heap[q]? = H[q]? := fun q h1 h2 => by rw [e1]; exact hk2 q h1 h2
    obtain ⟨t2, a1, b1⟩ := kk v T'.heap (locs ++ L) (by rw [e1]; exact hp) hz2 hk3 (hL9 hz2 hk3 hL) T' rfl X'
    exact ⟨t2, st t2 a1, b1⟩
  · rw [g0] at hz hk1
    have hz2 : H.size ≤ T'.heap.size := by rw [e1]; exact hz
    have hk3 : ∀ q : Nat, q < H.size → T'.heap[q]? = H[q]? := fun q h1 => by rw [e1]; exact hk1 q h1
    obtain ⟨t2, a1, b1⟩ := kx9 E ce q T'.heap (locs ++ L) hp (by rw [e1]; exact hce) hcv hcl hz2 hk3 (hL9 hz2 (fun q h1 _ => hk3 q h1) hL) T' rfl X'
    exact ⟨t2, st.trans a1, b1⟩
/-- a static call of a method that catches -/
theorem lw_S {w : va_W} {hh : List (Nat × Nat × Nat × Nat)} {A0 : Nat → Prop} {H0 : Heap} (S : CallFix p m c cc nL s args Ts own) (hk : kx G T s) (ht : thr sa A9 s H) (hnc : ncs s) (hM : lwr l y ws fr lc k As G T sa A9 H w Post)
    (hT : GoodIn Ts (va_wsS own index y ws)) (hw : ws = Cond.codeWith y bytes maxL ret hh :: ws')
    (hd : y.cls ≠ "java/lang/invoke/MethodHandle" ∧ y.cls ≠ "java/lang/invoke/VarHandle" ∧ (parseMethodDescriptor y.desc).map (fun d => d.parameters.length) = some n) (hR : fr + 1 ≤ R.frames ∧ 8 + (maxL + 11) + lc ≤ R.locals)
    (hn : As.length = n) (hl : ls.size = nL) (hst : st = As.reverse ++ rest) (hcat : (rest.map fun v => v.category).sum ≤ 8) (hdg : decode cc pc = .ok (.invokestatic index, 3)) (hf : cells + k ≤ R.cells ∧ slots + 6 * k ≤ R.slots)
    (hS : va_S A0 H0 H locs) (hFc : ∀ q, va_A w H.size q → A0 q)
    (kk : ∀ (v : Option Value) (H1 : Heap) (locs1 : List Loc), Post v H1 → H.size ≤ H1.size → (∀ q : Nat, q < H.size → ¬ va_A w H.size q → H1[q]? = H[q]?) → va_S A0 H0 H1 locs1 → W p l e R s m args below meth c H1 locs1 (cells + k) (slots + 6 * k) Q (F0 m (pc + 3) ls (v.toList ++ rest))) : W p l e R s m args below meth c H locs cells slots Q (F0 m pc ls st) := by
  subst hst
  have h0 : 2 * (F0 m pc ls (As.reverse ++ rest)).monitorRoom = 0 := rfl
  have hr := vx_runSW (e := e) (below := below) (meth := meth) (H := H) (locs := locs) (cells := cells) (slots := slots) (rest := rest) (g := F0 m pc ls (As.reverse ++ rest)) S hM (vx_cwSW n S.2.2.2.2 hT hw rfl rfl hd hR) ⟨at4_blind, fun U hU hW => ⟨rfl, hU, hk.warm hW, ht.warm hW, hnc.alike hW.alike⟩⟩ rfl hn hl rfl (by omega) hdg hf
  intro Z hZ X
  obtain ⟨v, st₀, t, T', L, g0, X', hL, e1, -, ⟨v2, hv, hp, hz, hk2⟩, st⟩ := hr Z hZ X
  cases hv
  rw [g0] at hz hk2
  obtain ⟨t2, a1, b1⟩ := kk v T'.heap (locs ++ L) (by rw [e1]; exact hp) (by rw [e1]; exact hz) (fun q h1 h2 => by rw [e1]; exact hk2 q h1 h2)
    ⟨Nat.le_trans hS.1 (by rw [e1]; exact hz), fun q h1 h2 => by rw [e1, hk2 q (Nat.lt_of_lt_of_le h1 hS.1) (fun z => h2 (hFc q z))]; exact hS.2.1 q h1 h2, fun q hq => by
      rcases List.mem_append.mp hq with h | h
      · exact hS.2.2 q h
      · exact hFc _ (hL q h)⟩ T' rfl X'
  exact ⟨t2, st t2 a1, b1⟩
end TXC
/-- the head of a world is written: the rest stays -/
theorem fr_hd {A : Nat → Prop} {w Y w' : va_W} {H1 : Heap} (hP : va_P G vwCl (w ++ Y) H) (hD : va_D A (w ++ Y)) (hk : ∀ q : Nat, q < H.size → ¬ va_A w H.size q → H1[q]? = H[q]?) (hP1 : va_P G vwCl w' H1) (ha : (w'.map Prod.fst).Perm (w.map Prod.fst)) : va_P G vwCl (w' ++ Y) H1 ∧ va_D A (w' ++ Y) := by
  refine ⟨fun i q hq => ?_, D_perm hD (by rw [List.map_append, List.map_append]; exact List.Perm.append_right _ ha)⟩
  rcases Nat.lt_or_ge i w'.length with h | h
  · rw [List.getElem?_append_left h] at hq
    exact hP1 i q hq
  · rw [List.getElem?_append_right h] at hq
    have hq2 : (w ++ Y)[w.length + (i - w'.length)]? = some q := by rw [List.getElem?_append_right (by omega), Nat.add_sub_cancel_left]; exact hq
    refine (hP _ q hq2).kept (hk q.1 (hP _ q hq2).lt ?_)
    rintro (⟨j, e, hj⟩ | g)
    · have hl := (List.getElem?_eq_some_iff.mp hj).1
      have := hD.1 j _ (q.1, e) q (by rw [List.getElem?_append_left hl]; exact hj) hq2 rfl
      omega
    · have := (hP _ q hq2).lt; omega
theorem D_hd {A : Nat → Prop} {w Y : va_W} (hD : va_D A (w ++ Y)) : va_D A w := D_mid (X := []) (by exact hD)
theorem P_old {w : va_W} {H1 : Heap} (hP : va_P G vwCl w H) (hk : ∀ a : Nat, a < H.size → H1[a]? = H[a]?) : va_P G vwCl w H1 := fun k q hq => (hP k q hq).kept (hk q.1 (hP k q hq).lt)
section LROW
variable {p : Program} {e : Env} {R : Room} {s : State} {m : MethodId} {args : Array Value} {below : List Frame} {meth : Method} {c : Code} {locs : List Loc} {cells slots : Nat} {Q : State → Prop}
variable {cc : ByteArray} {pc : Nat} {ls : Array Slot} {rest : List Value} {w : va_W} {a : Nat} {A : Nat → Prop} {H0 : Heap}
abbrev eL (T : Nat → ClassId) (x : Int64) : va_E := .inl (T 3, 1, .inr (.inl (fun _ => x)))
abbrev eD (T : Nat → ClassId) (x : UInt64) : va_E := .inl (T 4, 1, .inr (.inr (.inr (.inl (fun _ => x)))))
theorem rowL_cg {cA : ClassId} {n : Nat} {f g : Nat → Int64} (h : ∀ k, k < n → f k = g k) : vp_cell cA (n, .inr (.inl f)) = vp_cell cA (n, .inr (.inl g)) := by
  rw [vp_cell_l, vp_cell_l]
  unfold arrV
  congr 2
  funext j
  exact congrArg Value.long (h j.val j.isLt)
theorem rowD_cg {cA : ClassId} {n : Nat} {f g : Nat → UInt64} (h : ∀ k, k < n → f k = g k) : vp_cell cA (n, .inr (.inr (.inr (.inl f)))) = vp_cell cA (n, .inr (.inr (.inr (.inl g)))) := by
  rw [vp_cell_d, vp_cell_d]
  unfold arrV
  congr 2
  funext j
  exact congrArg Value.double (h j.val j.isLt)
theorem P_cell {w : va_W} (hP : va_P G vwCl w H) (q : Nat) {x y : vp_A} {cA : ClassId} (hq : w[q]? = some (a, .inl (cA, x))) (h : vp_cell cA x = vp_cell cA y) : va_P G vwCl (w.set q (a, .inl (cA, y))) H := by
  have hl := (List.getElem?_eq_some_iff.mp hq).1
  intro k z hz
  by_cases hk : k = q
  · subst hk
    rw [List.getElem?_set_self hl] at hz
    cases hz
    have := hP k _ hq
    show H[a]? = some (vp_cell cA y)
    rw [← h]; exact this
  · rw [List.getElem?_set_ne (Ne.symm hk)] at hz
    exact hP k z hz
/-- the long of out, written .. -/
theorem lst0 (hexec : p.tables.exec = Jvm.exec) (hb : c.code = cc) (hk : kx G T s) (hP : va_P G vwCl w H) (hD : va_D A w) (hS : va_S A H0 H locs) (q0 : Nat) {y : Int64} (ha : w[q0]? = some (a, eL T y)) {x : Int64} (hdg : decode cc pc = .ok (.lastore, 1))
    (kk : ∀ (H1 : Heap) (locs1 : List Loc), va_P G vwCl (w.set q0 (a, eL T x)) H1 → va_D A (w.set q0 (a, eL T x)) → va_S A H0 H1 locs1 → W p l e R s m args below meth c H1 locs1 cells slots Q (F0 m (pc + 1) ls rest)) : W p l e R s m args below meth c H locs cells slots Q (F0 m pc ls (.long x :: .int 0 :: .ref a :: rest)) := by
  refine va_last hexec hb hk.1 hP hD hS q0 3 ha rfl (show vp_in (nI 0) 1 from vp_in_nI (by decide) (by decide)) hdg (fun H1 locs1 hP hD hS => ?_)
  have hl := (List.getElem?_eq_some_iff.mp ha).1
  have h2 := P_cell hP q0 (y := (1, .inr (.inl (fun _ => x)))) (by rw [List.getElem?_set_self hl]) (rowL_cg (by
    intro k hk
    obtain rfl : k = 0 := by omega
    rfl))
  rw [List.set_set] at h2
  exact kk H1 locs1 h2 (fr_all hD (by rw [List.map_set, List.map_set])) hS
/-- .. and read -/
theorem lld0 (hexec : p.tables.exec = Jvm.exec) (hb : c.code = cc) (hk : kx G T s) (hP : va_P G vwCl w H) (q0 : Nat) {y : Int64} (ha : w[q0]? = some (a, eL T y)) (hdg : decode cc pc = .ok (.laload, 1))
    (kk : W p l e R s m args below meth c H locs cells slots Q (F0 m (pc + 1) ls (.long y :: rest))) : W p l e R s m args below meth c H locs cells slots Q (F0 m pc ls (.int 0 :: .ref a :: rest)) :=
  va_lald hexec hb hk.1 hP q0 3 ha rfl (show vp_in (nI 0) 1 from vp_in_nI (by decide) (by decide)) hdg kk
theorem dst0 (hexec : p.tables.exec = Jvm.exec) (hb : c.code = cc) (hk : kx G T s) (hP : va_P G vwCl w H) (hD : va_D A w) (hS : va_S A H0 H locs) (q0 : Nat) {y : UInt64} (ha : w[q0]? = some (a, eD T y)) {x : UInt64} (hdg : decode cc pc = .ok (.dastore, 1))
    (kk : ∀ (H1 : Heap) (locs1 : List Loc), va_P G vwCl (w.set q0 (a, eD T x)) H1 → va_D A (w.set q0 (a, eD T x)) → va_S A H0 H1 locs1 → W p l e R s m args below meth c H1 locs1 cells slots Q (F0 m (pc + 1) ls rest)) : W p l e R s m args below meth c H locs cells slots Q (F0 m pc ls (.double x :: .int 0 :: .ref a :: rest)) := by
  refine va_dast hexec hb hk.1 hP hD hS q0 4 ha rfl (show vp_in (nI 0) 1 from vp_in_nI (by decide) (by decide)) hdg (fun H1 locs1 hP hD hS => ?_)
  have hl := (List.getElem?_eq_some_iff.mp ha).1
  have h2 := P_cell hP q0 (y := (1, .inr (.inr (.inr (.inl (fun _ => x)))))) (by rw [List.getElem?_set_self hl]) (rowD_cg (by
    intro k hk
    obtain rfl : k = 0 := by omega
    rfl))
  rw [List.set_set] at h2
  exact kk H1 locs1 h2 (fr_all hD (by rw [List.map_set, List.map_set])) hS
theorem dld0 (hexec : p.tables.exec = Jvm.exec) (hb : c.code = cc) (hk : kx G T s) (hP : va_P G vwCl w H) (q0 : Nat) {y : UInt64} (ha : w[q0]? = some (a, eD T y)) (hdg : decode cc pc = .ok (.daload, 1))
    (kk : W p l e R s m args below meth c H locs cells slots Q (F0 m (pc + 1) ls (.double y :: rest))) : W p l e R s m args below meth c H locs cells slots Q (F0 m pc ls (.int 0 :: .ref a :: rest)) :=
  va_dald hexec hb hk.1 hP q0 4 ha rfl (show vp_in (nI 0) 1 from vp_in_nI (by decide) (by decide)) hdg kk
end LROW
/-- what a method that catches has behind it: 0 and the answer laid down, or the number of the exception and nothing else -/
def wrP (G : va_G) (F : Nat) (cm : Int32) (w0 w1 : va_W) : Option Value → Heap → Prop := fun v9 H9 => (F = 0 ∧ v9 = some (.int 0) ∧ va_P G vwCl w0 H9) ∨ (¬ F = 0 ∧ v9 = some (.int cm) ∧ va_P G vwCl w1 H9)
end WRP
/-! which faults a test can be -/
theorem r_th (i n : Int32) : ¬ thF i n = 2 ∧ ¬ thF i n = 3 := by unfold thF; split <;> decide
theorem r_wi (v a b : Int32) : ¬ wiF v a b = 1 ∧ ¬ wiF v a b = 3 := by unfold wiF; split <;> decide
theorem r_po (z : Int32) : ¬ poF z = 1 ∧ ¬ poF z = 2 := by unfold poF; split <;> decide
theorem r_sq {a b k : Nat} (ha : ¬ a = k) (hb : ¬ b = k) : ¬ sq a b = k := by unfold sq; split <;> assumption
theorem r_pl (N : Nat → Nat) (u v d : Int32) : ¬ rfF (plF N u v d) = 3 := by
  unfold plF; split
  · split <;> decide
  · decide
theorem r_dr2 (N : Nat → Nat) (t : Int32) : ¬ rfF (drF N t) = 2 := by unfold drF; split <;> decide
theorem r_dr3 (N : Nat → Nat) (t : Int32) : ¬ rfF (drF N t) = 3 := by unfold drF; split <;> decide
