/-! my kit, 8: methods that answer on a heap that they leave as it is, given facts of the state; a String constant and what the JDK answers of it -/
section STR
abbrev rg (l : Launch) (y : MethodName) (ws : List Cond) (fr lc : Nat) (as : List Value) (H : Heap) (P : State → Prop) (Post : Option Value → Prop) : Prop :=
  Met l y ws (rmo fr lc) (va_Pc as (fun U => U.heap = H ∧ P U)) (rxQ Post) 0 0 (fun _ => False)
variable {l : Launch} {H : Heap} {P : State → Prop}
theorem rg_of {y : MethodName} {ws ws' : List Cond} {fr lc : Nat} {as : List Value} {Post : Option Value → Prop} {cc : ByteArray} {maxL : Nat} {ret : Option FieldType} {own : String}
    (hy : plainName y.cls = true) (hw : ws = Cond.code y cc maxL ret :: ws') (hown : y.cls = own) (hle : (lg_sl as).length ≤ maxL)
    (body : ∀ (p : Program) (e : Env) (s : State) (m : MethodId) (below : List Frame) (meth : Method) (c : Code) (Q : State → Prop) (ls : Array Slot), s.heap = H →
      CallFix p m c cc maxL s as.toArray ws own → P s → lv_has ls maxL (lv_args 0 as) →
      (∀ (v : Int32) (ty : FieldType) (pc : Nat) (ls : Array Slot), ret = some ty → narrow ty (.int v) = .int v → Post (some (.int v)) → decode cc pc = .ok (.ireturn, 1) → W p l e (rmo fr lc) s m as.toArray below meth c H [] 0 0 Q (F0 m pc ls [.int v])) →
      (∀ (a pc : Nat) (n : String) (ls : Array Slot), ret = some (.object n) → Post (some (.ref a)) → decode cc pc = .ok (.areturn, 1) → W p l e (rmo fr lc) s m as.toArray below meth c H [] 0 0 Q (F0 m pc ls [.ref a])) →
      (∀ (pc : Nat) (ls : Array Slot), ret = none → Post none → decode cc pc = .ok (.return_, 1) → W p l e (rmo fr lc) s m as.toArray below meth c H [] 0 0 Q (F0 m pc ls [])) →
      W p l e (rmo fr lc) s m as.toArray below meth c H [] 0 0 Q (F0 m 0 ls [])) : rg l y ws fr lc as H P Post := by
  refine Met.ofW hy hw ?_
  intro p e s m args below meth c s₁ B hml hv
  obtain ⟨rfl, hH, hk⟩ := hv
  subst hH
  have hts := atoms_spec (ws := ws) B.pre
  have ho : s.vm.findClass own = some m.cls := hown ▸ findClass_of_methodNamed B.named
  have hl := lv_entry as hle
  rw [lg_entry_eq]
  refine body p e s m below meth c _ _ rfl ⟨B.exec, B.bytes, hml, ho, hts⟩ hk hl ?_ ?_ ?_
  · intro v ty pc ls hr hn hp hd
    exact W.zret B.exec B.bytes (B.returns.trans hr) hn (fun t ht _ => ⟨_, rfl, hp, ht⟩) (fun _ h => by cases h) hd B.notSynchronized
  · intro a pc n ls hr hp hd
    exact W.aret B.exec B.bytes (B.returns.trans hr) (Or.inl ⟨n, rfl⟩) (Or.inr ⟨a, rfl⟩) (fun t ht _ => ⟨_, rfl, hp, ht⟩) (fun _ h => by cases h) hd B.notSynchronized
  · intro pc ls hr hp hd
    exact W.vret B.exec B.bytes (B.returns.trans hr) (fun t ht _ => ⟨_, rfl, hp, ht⟩) (fun _ h => by cases h) hd B.notSynchronized
section RGC
variable {p : Program} {e : Env} {R : Room} {s : State} {m : MethodId} {args : Array Value} {below : List Frame} {meth : Method} {c : Code} {locs : List Loc} {cells slots : Nat} {Q : State → Prop}
variable {y : MethodName} {bytes cc : ByteArray} {maxL nL n index fr lc pc : Nat} {ret : Option FieldType} {ws ws' : List Cond} {Post : Option Value → Prop} {Ts : List Cond} {own C : String} {b : Addr} {As rest st : List Value} {ls : Array Slot}
theorem rg_k {a : Array Value} (hr : va_Run p l e R s m args below meth c H locs cells slots 0 0 (F0 m pc ls st) rest (rxQ Post a) (fun _ => False))
    (kk : ∀ v : Option Value, Post v → W p l e R s m args below meth c H locs cells slots Q (F0 m (pc + 3) ls (v.toList ++ rest))) : W p l e R s m args below meth c H locs cells slots Q (F0 m pc ls st) := by
  intro Z hZ X
  obtain ⟨v, st₀, t, T', L, g0, X', hL, e1, -, ⟨v2, hv, hp2, hh⟩, st⟩ := hr Z hZ X
  cases hv
  obtain ⟨t2, a1, b1⟩ := kk v hp2 T' (by rw [e1, hh, g0]) (Stand.forget X' (fun q h => (hL q h).elim))
  exact ⟨t2, st t2 a1, b1⟩
theorem rg_S (S : CallFix p m c cc nL s args Ts own) (hb : stb P) (hp : P s) (hM : rg l y ws fr lc As H P Post)
    (hT : GoodIn Ts (va_wsS own index y ws)) (hw : ws = Cond.code y bytes maxL ret :: ws')
    (hd : y.cls ≠ "java/lang/invoke/MethodHandle" ∧ y.cls ≠ "java/lang/invoke/VarHandle" ∧ (parseMethodDescriptor y.desc).map (fun d => d.parameters.length) = some n) (hR : fr + 1 ≤ R.frames ∧ 8 + (maxL + 11) + lc ≤ R.locals)
    (hn : As.length = n) (hl : ls.size = nL) (hst : st = As.reverse ++ rest) (hcat : (rest.map fun v => v.category).sum ≤ 8) (hdg : decode cc pc = .ok (.invokestatic index, 3)) (hf : cells ≤ R.cells ∧ slots ≤ R.slots)
    (kk : ∀ v : Option Value, Post v → W p l e R s m args below meth c H locs cells slots Q (F0 m (pc + 3) ls (v.toList ++ rest))) : W p l e R s m args below meth c H locs cells slots Q (F0 m pc ls st) := by
  subst hst
  have h0 : 2 * (F0 m pc ls (As.reverse ++ rest)).monitorRoom = 0 := rfl
  exact rg_k (va_runS (e := e) (below := below) (meth := meth) (H := H) (locs := locs) (cells := cells) (slots := slots) (rest := rest) (g := F0 m pc ls (As.reverse ++ rest)) S hM (va_cwS n S.2.2.2.2 hT hw rfl rfl hd hR) ⟨fun a9 u9 g9 k9 q => ⟨q.1, q.2.1, hb.1 u9 (u9.calling g9 k9 a9) rfl q.2.2⟩, fun U hU hW => ⟨rfl, hU, hb.2 _ _ hW hp⟩⟩ rfl hn hl rfl (by omega) hdg hf) kk
end RGC
end STR
section FRH
variable {G : va_G} {T : Nat → ClassId} {H : Heap}
/-- the head of a world is written: the rest stays -/
theorem fr_hd {A : Nat → Prop} {w Y w' : va_W} {H1 : Heap} (hP : va_P G vwCl (w ++ Y) H) (hD : va_D A (w ++ Y)) (hk : ∀ q : Nat, q < H.size → ¬ va_A w H.size q → H1[q]? = H[q]?) (hP1 : va_P G vwCl w' H1) (ha : (w'.map Prod.fst).Perm (w.map Prod.fst)) : va_P G vwCl (w' ++ Y) H1 ∧ va_D A (w' ++ Y) := by
  refine ⟨fun i q hq => ?_, D_perm hD (by rw [List.map_append, List.map_append]; exact List.Perm.append_right _ ha)⟩
  rcases Nat.lt_or_ge i w'.length with h | h
  · rw [List.getElem?_append_left h] at hq
    exact hP1 i q hq
  · rw [List.getElem?_append_right h] at hq
    have hq2 : (w ++ Y)[w.length + (i - w'.length)]? = some q := by rw [List.getElem?_append_right (by omega), Nat.add_sub_cancel_left]; exact hq
    refine (hP _ q hq2).kept (hk q.1 (hP _ q hq2).lt ?_)
    rintro (⟨j, e, hj⟩ | g)
    · have hl := (List.getElem?_eq_some_iff.mp hj).1
      have := hD.1 j _ (q.1, e) q (by rw [List.getElem?_append_left hl]; exact hj) hq2 rfl
      omega
    · have := (hP _ q hq2).lt; omega
theorem D_hd {A : Nat → Prop} {w Y : va_W} (hD : va_D A (w ++ Y)) : va_D A w := D_mid (X := []) (by exact hD)
theorem P_old {w : va_W} {H1 : Heap} (hP : va_P G vwCl w H) (hk : ∀ a : Nat, a < H.size → H1[a]? = H[a]?) : va_P G vwCl w H1 := fun k q hq => (hP k q hq).kept (hk q.1 (hP k q hq).lt)
/-- the tail of a world is written: the rest stays -/
theorem fr_tl {A : Nat → Prop} {X w w' : va_W} {H1 : Heap} (hP : va_P G vwCl (X ++ w) H) (hD : va_D A (X ++ w)) (hk : ∀ q : Nat, q < H.size → ¬ va_A w H.size q → H1[q]? = H[q]?) (hP1 : va_P G vwCl w' H1) (ha : (w'.map Prod.fst).Perm (w.map Prod.fst)) : va_P G vwCl (X ++ w') H1 ∧ va_D A (X ++ w') := by
  obtain ⟨h1, h2⟩ := fr_hd (P_perm hP List.perm_append_comm) (D_perm' hD List.perm_append_comm) hk hP1 ha
  exact ⟨P_perm h1 List.perm_append_comm, D_perm' h2 List.perm_append_comm⟩
end FRH
/-- a cell of the script, or a number in its place -/
def clN (xs : Nat → Int32) (LL k : Nat) : Int32 := if k < LL then xs k else 747796405 * (nI k + 1)
theorem stb_X {b LL : Nat} {xs : Nat → Int32} {H : Heap} : stb (fun U => va_X b LL xs U H) :=
  ⟨fun u U e h => va_X.moved (by rw [e]; exact Vm.Alike.refl _) h, fun _ _ hW h => va_X.moved hW.alike h⟩
