/-! my kit, 4: faults, the system's world, writers that may throw -/
/-- which exception a fault is: 1 no such thing, 2 out of range, 3 not possible -/
def fcE (n : Nat) (E : String) : Prop := (n = 1 ∧ E = eI) ∨ (n = 2 ∧ E = eA) ∨ (n = 3 ∧ E = eS)
/-- one test behind another -/
def sq (a b : Nat) : Nat := if a = 0 then b else a
theorem sq_l {a b : Nat} {E : String} (h : fcE a E) : fcE (sq a b) E := by
  unfold sq
  rw [if_neg (by rcases h with h | h | h <;> omega)]
  exact h
theorem sq_r {a b : Nat} {E : String} (h0 : a = 0) (h : fcE b E) : fcE (sq a b) E := by
  unfold sq; rw [if_pos h0]; exact h
theorem sq_0 {a b : Nat} (h0 : a = 0) (h : b = 0) : sq a b = 0 := by unfold sq; rw [if_pos h0]; exact h
def thF (i n : Int32) : Nat := if isT i n = true then 0 else 1
def wiF (v a b : Int32) : Nat := if isW v a b = true then 0 else 2
def poF (z : Int32) : Nat := if z = 0 then 3 else 0
def rfF (z : Int32) : Nat := if z = 1 then 1 else if z = 2 then 2 else if z = 3 then 3 else 0
def seF (x n : Int32) : Nat := wiF x 0 (((1 : Int32) <<< (n &&& 31)) - 1)
def dyF (d : Int32) : Nat := wiF d 0 999
def dsF (f w : Int32) : Nat := sq (dyF f) (wiF w f 999)
def udF (N : Nat → Nat) (u d : Int32) : Nat := sq (thF u (nI (N 2))) (dyF d)
/-- the saved calendars -/
abbrev wSav (T : Nat → ClassId) (b : Nat → Nat → Nat) (M : Nat → Nat → Nat) (Y : Nat → Nat → Nat → Int32) : va_W := wCal T (b 0) (M 0) (Y 0) ++ (wCal T (b 1) (M 1) (Y 1) ++ (wCal T (b 2) (M 2) (Y 2) ++ wCal T (b 3) (M 3) (Y 3)))
/-- the system's own cells: itself, the row of saved calendars, the orders with their text and numbers -/
abbrev wHd (T : Nat → ClassId) (q : Nat → Nat) (a : Nat → Nat) (rf : Nat → Option Nat) (sc : Nat) (tx : Nat → Int32) (L : Nat) (cu : Nat) (er le : Int32) (nb : Nat → Int32) (nc : Nat) : va_W := [
  (q 0, .inr (5, [.ref (a 0), .ref (q 1), .int (nI sc), .ref (q 2)])),
  (q 1, .inl (T 2, 4, .inr (.inr (.inr (.inr rf))))),
  (q 2, .inr (1, [.ref (q 3), .int (nI L), .int (nI cu), .int er, .int le, .ref (q 4), .int (nI nc)])),
  (q 3, .inl (T 1, 100, .inl tx)), (q 4, .inl (T 0, 5, .inl nb))]
abbrev wMainR (T : Nat → ClassId) (q a : Nat → Nat) (N : Nat → Nat) (Z : Nat → Nat → Int32) (b : Nat → Nat → Nat) (M : Nat → Nat → Nat) (Y : Nat → Nat → Nat → Int32) (sc : Nat) (tx : Nat → Int32) (L : Nat) (cu : Nat) (er le : Int32) (nb : Nat → Int32) (nc : Nat) (rf : Nat → Option Nat) : va_W :=
  wHd T q a rf sc tx L cu er le nb nc ++ (wCal T a N Z ++ wSav T b M Y)
abbrev wMain (T : Nat → ClassId) (q a : Nat → Nat) (N : Nat → Nat) (Z : Nat → Nat → Int32) (b : Nat → Nat → Nat) (M : Nat → Nat → Nat) (Y : Nat → Nat → Nat → Int32) (sc : Nat) (tx : Nat → Int32) (L : Nat) (cu : Nat) (er le : Int32) (nb : Nat → Int32) (nc : Nat) : va_W :=
  wMainR T q a N Z b M Y sc tx L cu er le nb nc (fun i => some (b i 0))
section SKIT4
variable {l : Launch} {G : va_G} {T : Nat → ClassId} {sa : Nat → Nat} {A9 : Nat → Prop} {H : Heap}
theorem P_mid {X w Y : va_W} (hP : va_P G vwCl (X ++ (w ++ Y)) H) : va_P G vwCl w H := fun k q hq => by
  have hl := (List.getElem?_eq_some_iff.mp hq).1
  refine hP (X.length + k) q ?_
  rw [List.getElem?_append_right (by omega), Nat.add_sub_cancel_left, List.getElem?_append_left hl, hq]
theorem D_mid {A : Nat → Prop} {X w Y : va_W} (hD : va_D A (X ++ (w ++ Y))) : va_D A w := by
  have key : ∀ (k : Nat) (q : Nat × va_E), w[k]? = some q → (X ++ (w ++ Y))[X.length + k]? = some q := fun k q hq => by
    have hl := (List.getElem?_eq_some_iff.mp hq).1
    rw [List.getElem?_append_right (by omega), Nat.add_sub_cancel_left, List.getElem?_append_left hl, hq]
  refine ⟨fun i j x z hx hz h => ?_, fun i q hq => hD.2 _ q (key i q hq)⟩
  have := hD.1 _ _ x z (key i x hx) (key j z hz) h
  omega
theorem P_tl {X w : va_W} (hP : va_P G vwCl (X ++ w) H) : va_P G vwCl w H := P_mid (Y := []) (by rw [List.append_nil]; exact hP)
theorem P_hd {X w : va_W} (hP : va_P G vwCl (X ++ w) H) : va_P G vwCl X H := P_mid (X := []) (by exact hP)
def txQ (H : Heap) (w : va_W) (Post : Option Value → Heap → Prop) : Array Value → State → Outcome → State → Prop := muQ H w Post
/-- a method that writes into a world of its own, or throws and has written nothing -/
abbrev txm (l : Launch) (y : MethodName) (ws : List Cond) (fr lc k : Nat) (as : List Value) (G : va_G) (T : Nat → ClassId) (sa : Nat → Nat) (A : Nat → Prop) (H : Heap) (w : va_W) (Post : Option Value → Heap → Prop) (PX : String → Prop) : Prop :=
  vx_Met l y ws (rmx fr lc k) (va_Pc as (at1 G T sa A H)) (muQ H w Post) (txX PX) k (6 * k) (va_A w H.size)
theorem tx_of {y : MethodName} {ws ws' : List Cond} {fr lc k : Nat} {as : List Value} {w : va_W} {Post : Option Value → Heap → Prop} {PX : String → Prop} {cc : ByteArray} {maxL : Nat} {ret : Option FieldType} {own : String}
    (hy : plainName y.cls = true) (hw : ws = Cond.code y cc maxL ret :: ws') (hown : y.cls = own) (hle : (lg_sl as).length ≤ maxL) (h9 : ∀ q, H.size ≤ q → A9 q) (hD : va_D (fun _ => True) w)
    (body : ∀ (p : Program) (e : Env) (s : State) (m : MethodId) (below : List Frame) (meth : Method) (c : Code) (ls : Array Slot) (A : Nat → Prop) (Q : State → Prop),
      CallFix p m c cc maxL s as.toArray ws own → kx G T s → thr sa (fun q => H.size ≤ q) s H → lv_has ls maxL (lv_args 0 as) → va_D A w → va_S A H H [] → (∀ q, H.size ≤ q → A q) →
      (∀ (v : Int32) (ty : FieldType) (pc i n : Nat) (ls : Array Slot) (H1 : Heap) (locs1 : List Loc), ret = some ty → narrow ty (.int v) = .int v → Post (some (.int v)) H1 → va_S A H H1 locs1 → i ≤ k → n ≤ 6 * k → decode cc pc = .ok (.ireturn, 1) → W p l e (rmx fr lc k) s m as.toArray below meth c H1 locs1 i n Q (F0 m pc ls [.int v])) →
      (∀ (E : String) (ce : Cell) (q pc i n : Nat) (ls : Array Slot) (rest : List Value) (H1 : Heap), PX E → H1[q]? = some ce → ce.vm = .none → s.vm.findClass E = some ce.cls → H.size ≤ H1.size → (∀ a : Nat, a < H.size → H1[a]? = H[a]?) → i ≤ k → n ≤ 6 * k → vx_W p l e (rmx fr lc k) s m as.toArray below meth c H1 [] i n Q (F0 m pc ls rest) q) →
      W p l e (rmx fr lc k) s m as.toArray below meth c H [] 0 0 Q (F0 m 0 ls [])) : txm l y ws fr lc k as G T sa A9 H w Post PX := by
  refine vx_ofW hy hw ?_
  intro p e s m args below meth c s₁ B hml hnt hv
  obtain ⟨rfl, hH, hk, ht⟩ := hv
  subst hH
  have hts := atoms_spec (ws := ws) B.pre
  have ho : s.vm.findClass own = some m.cls := hown ▸ findClass_of_methodNamed B.named
  have hl := lv_entry as hle
  rw [lg_entry_eq]
  refine body p e s m below meth c _ (va_A w s.heap.size) _ ⟨B.exec, B.bytes, hml, ho, hts⟩ hk (ht.narrow h9) hl hD.self va_S.rf (fun q h => Or.inr h) ?_ ?_
  · intro v ty pc i n ls H1 locs1 hr hn hp hS hi hn2 hd
    refine vx_ret (W.widen hi hn2 ?_)
    exact W.zret B.exec B.bytes (B.returns.trans hr) hn (fun t ht _ => ⟨_, rfl, by rw [ht]; exact hp, hS.F ht⟩) hS.2.2 hd B.notSynchronized
  · intro E ce q pc i n ls rest H1 hp hq hv hc hz hk1 hi hn2
    exact vx_out (fun x hx => (hnt x hx).elim) B.notSynchronized hq hv hc (fun t ht _ => ⟨hp, by rw [ht]; exact hz, fun a ha => by rw [ht]; exact hk1 a ha⟩) (fun _ h => by cases h) hi hn2
end SKIT4
abbrev tn (x : Int32) : Nat := x.toNatClampNeg
theorem thF_nat {i : Int32} {n : Nat} (h : thF i (nI n) = 0) (hn : n < 2 ^ 31) : ∃ k, k < n ∧ i = nI k := by
  unfold thF at h
  split at h
  · rename_i q; exact isT_nat hn q
  · cases h
theorem wiF_nat {v x z : Int32} (h : wiF v x z = 0) {a b : Nat} (hx : x = nI a := by rfl) (hz : z = nI b := by rfl) (ha : a < 2 ^ 31 := by omega) (hb : b < 2 ^ 31 := by omega) : ∃ k, a ≤ k ∧ k ≤ b ∧ v = nI k := by
  unfold wiF at h
  split at h
  · rename_i q
    simp only [isW, Bool.and_eq_true, decide_eq_true_eq] at q
    obtain ⟨k, h1, rfl⟩ := nI_of (x := v) (by
      rw [Int32.not_lt]
      have := q.1
      rw [hx] at this
      exact Int32.le_trans (nI_pos' ha) this)
    rw [hx, hz] at q
    exact ⟨k, (nI_leI ha h1).mp q.1, (nI_leI h1 hb).mp q.2, rfl⟩
  · cases h
theorem sq_z {a b : Nat} (h : sq a b = 0) : a = 0 ∧ b = 0 := by
  unfold sq at h
  split at h
  · rename_i q; exact ⟨q, h⟩
  · rename_i q; exact absurd h q
