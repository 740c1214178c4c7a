/-! my kit, 5: worlds in another order; the saved calendars -/
section SKIT5
variable {l : Launch} {G : va_G} {T : Nat → ClassId} {H : Heap}
theorem P_perm {w w2 : va_W} (hP : va_P G vwCl w H) (h : w.Perm w2) : va_P G vwCl w2 H := fun k q hq => by
  obtain ⟨i, hi⟩ := List.getElem?_of_mem (h.mem_iff.mpr (List.mem_of_getElem? hq))
  exact hP i q hi
theorem D_nd {A : Nat → Prop} {w : va_W} : va_D A w ↔ (w.map Prod.fst).Nodup ∧ ∀ q ∈ w, A q.1 := by
  constructor
  · intro h
    refine ⟨?_, fun q hq => ?_⟩
    · refine List.pairwise_iff_getElem.mpr (fun i j hi hj hij e => ?_)
      rw [List.length_map] at hi hj
      rw [List.getElem_map, List.getElem_map] at e
      have := h.1 i j w[i] w[j] (List.getElem?_eq_getElem hi) (List.getElem?_eq_getElem hj) e
      omega
    · obtain ⟨i, hi⟩ := List.getElem?_of_mem hq
      exact h.2 i q hi
  · rintro ⟨h1, h2⟩
    refine ⟨fun i j p q hp hq e => ?_, fun k q hq => h2 q (List.mem_of_getElem? hq)⟩
    obtain ⟨hi, ei⟩ := List.getElem?_eq_some_iff.mp hp
    obtain ⟨hj, ej⟩ := List.getElem?_eq_some_iff.mp hq
    have key := List.pairwise_iff_getElem.mp h1
    rcases Nat.lt_trichotomy i j with h | h | h
    · exact absurd (by rw [List.getElem_map, List.getElem_map, ei, ej]; exact e) (key i j (by rw [List.length_map]; exact hi) (by rw [List.length_map]; exact hj) h)
    · exact h
    · exact absurd (by rw [List.getElem_map, List.getElem_map, ei, ej]; exact e.symm) (key j i (by rw [List.length_map]; exact hj) (by rw [List.length_map]; exact hi) h)
theorem D_perm {A : Nat → Prop} {w w2 : va_W} (hD : va_D A w) (h : (w2.map Prod.fst).Perm (w.map Prod.fst)) : va_D A w2 := by
  obtain ⟨h1, h2⟩ := D_nd.mp hD
  refine D_nd.mpr ⟨h.nodup_iff.mpr h1, fun q hq => ?_⟩
  obtain ⟨z, hz, e⟩ := List.mem_map.mp (h.mem_iff.mp (List.mem_map_of_mem (f := Prod.fst) hq))
  rw [← e]; exact h2 z hz
theorem D_perm' {A : Nat → Prop} {w w2 : va_W} (hD : va_D A w) (h : w.Perm w2) : va_D A w2 := D_perm hD (h.map _).symm
def rot {α : Type} (f : Nat → α) : Nat → α := fun i => f ((i + 1) % 4)
theorem rot_perm (b : Nat → Nat → Nat) (M : Nat → Nat → Nat) (Y : Nat → Nat → Nat → Int32) : (wSav T b M Y).Perm (wSav T (rot b) (rot M) (rot Y)) := by
  show (wCal T (b 0) (M 0) (Y 0) ++ (wCal T (b 1) (M 1) (Y 1) ++ (wCal T (b 2) (M 2) (Y 2) ++ wCal T (b 3) (M 3) (Y 3)))).Perm (wCal T (b 1) (M 1) (Y 1) ++ (wCal T (b 2) (M 2) (Y 2) ++ (wCal T (b 3) (M 3) (Y 3) ++ wCal T (b 0) (M 0) (Y 0))))
  refine List.perm_append_comm.trans ?_
  rw [List.append_assoc, List.append_assoc]
/-- the i-th of the saved calendars ahead of the others -/
theorem sv_split (b : Nat → Nat → Nat) (M : Nat → Nat → Nat) (Y : Nat → Nat → Nat → Int32) {i : Nat} (hi : i < 4) : ∃ R : va_W, (wSav T b M Y).Perm (wCal T (b i) (M i) (Y i) ++ R) ∧ ∀ (m : Nat → Nat) (y : Nat → Nat → Int32), (wSav T b (va_up M i m) (va_up Y i y)).Perm (wCal T (b i) m y ++ R) := by
  have sw : ∀ (x z r : va_W), (x ++ (z ++ r)).Perm (z ++ (x ++ r)) := fun x z r => by
    rw [← List.append_assoc, ← List.append_assoc]
    exact List.Perm.append_right _ List.perm_append_comm
  rcases (show i = 0 ∨ i = 1 ∨ i = 2 ∨ i = 3 by omega) with rfl | rfl | rfl | rfl
  · exact ⟨_, List.Perm.refl _, fun m y => List.Perm.refl _⟩
  · exact ⟨_, sw _ _ _, fun m y => sw _ _ _⟩
  · refine ⟨wCal T (b 0) (M 0) (Y 0) ++ (wCal T (b 1) (M 1) (Y 1) ++ wCal T (b 3) (M 3) (Y 3)), ?_, fun m y => ?_⟩
    · exact (List.Perm.append_left _ (sw _ _ _)).trans (sw _ _ _)
    · exact (List.Perm.append_left _ (sw _ _ _)).trans (sw _ _ _)
  · refine ⟨wCal T (b 0) (M 0) (Y 0) ++ (wCal T (b 1) (M 1) (Y 1) ++ wCal T (b 2) (M 2) (Y 2)), ?_, fun m y => ?_⟩
    · exact (List.Perm.append_left _ ((List.Perm.append_left _ List.perm_append_comm).trans (sw _ _ _))).trans (sw _ _ _)
    · exact (List.Perm.append_left _ ((List.Perm.append_left _ List.perm_append_comm).trans (sw _ _ _))).trans (sw _ _ _)
/-- head, now, saved: the i-th saved one behind now .. -/
theorem pm_now {h c s ci r : va_W} (hp : s.Perm (ci ++ r)) : (h ++ (c ++ s)).Perm (h ++ ((c ++ ci) ++ r)) := by
  rw [List.append_assoc]
  exact List.Perm.append_left _ (List.Perm.append_left _ hp)
/-- .. or ahead of it -/
theorem pm_sav {h c s ci r : va_W} (hp : s.Perm (ci ++ r)) : (h ++ (c ++ s)).Perm (h ++ ((ci ++ c) ++ r)) :=
  (pm_now hp).trans (List.Perm.append_left _ (List.Perm.append_right _ List.perm_append_comm))
theorem rowq_cg {cA : ClassId} {n : Nat} {f g : Nat → Option Nat} (h : ∀ k, k < n → f k = g k) : vp_cell cA (n, .inr (.inr (.inr (.inr f)))) = vp_cell cA (n, .inr (.inr (.inr (.inr g)))) := by
  rw [vp_cell_q, vp_cell_q]
  unfold arrV
  congr 2
  funext j
  exact congrArg va_rf (h j.val j.isLt)
theorem P_rowq {w : va_W} {a : Nat} (hP : va_P G vwCl w H) (q : Nat) {cA : ClassId} {n : Nat} {f g : Nat → Option Nat} (hq : w[q]? = some (a, .inl (cA, n, .inr (.inr (.inr (.inr f)))))) (h : ∀ k, k < n → f k = g k) : va_P G vwCl (w.set q (a, .inl (cA, n, .inr (.inr (.inr (.inr g)))))) H := by
  have hl := (List.getElem?_eq_some_iff.mp hq).1
  intro k x hx
  by_cases hk : k = q
  · subst hk
    rw [List.getElem?_set_self hl] at hx
    cases hx
    have := hP k _ hq
    show H[a]? = some (vp_cell cA (n, .inr (.inr (.inr (.inr g)))))
    rw [← rowq_cg h]; exact this
  · rw [List.getElem?_set_ne (Ne.symm hk)] at hx
    exact hP k x hx
def psh {α : Type} (sc : Nat) (M : Nat → α) (x : α) : Nat → α := if sc = 4 then va_up (rot M) 3 x else va_up M sc x
def svB (sc : Nat) (b : Nat → Nat → Nat) : Nat → Nat → Nat := if sc = 4 then rot b else b
def svC (sc : Nat) : Nat := if sc = 4 then 4 else sc + 1
section AQ
variable {p : Program} {e : Env} {R : Room} {s : State} {m : MethodId} {args : Array Value} {below : List Frame} {meth : Method} {c : Code} {locs : List Loc} {cells slots : Nat} {Q : State → Prop}
variable {cc : ByteArray} {pc : Nat} {ls : Array Slot} {rest : List Value} {w : va_W} {a : Nat} {A : Nat → Prop} {H0 : Heap}
theorem aq (hexec : p.tables.exec = Jvm.exec) (hb : c.code = cc) (hk : kx G T s) (hP : va_P G vwCl w H) (q0 : Nat) {n : Nat} {f : Nat → Option Nat} (ha : w[q0]? = some (a, .inl (T 2, n, .inr (.inr (.inr (.inr f)))))) (k : Nat) {i : Int32} (hi : i = nI k) (hkn : k < n) (hn : n < 2 ^ 31) (hdg : decode cc pc = .ok (.aaload, 1))
    (kk : W p l e R s m args below meth c H locs cells slots Q (F0 m (pc + 1) ls (va_rf (f k) :: rest))) : W p l e R s m args below meth c H locs cells slots Q (F0 m pc ls (.int i :: .ref a :: rest)) := by
  subst hi
  refine va_aldq hexec hb hk.1 hP q0 2 ha rfl (vp_in_nI hkn hn) hdg ?_
  rw [nI_clamp (Nat.lt_trans hkn hn)]
  exact kk
theorem aqs (hexec : p.tables.exec = Jvm.exec) (hb : c.code = cc) (hk : kx G T s) (hP : va_P G vwCl w H) (hD : va_D A w) (hS : va_S A H0 H locs) (q0 qk : Nat) {n v : Nat} {vs : List Value} {f : Nat → Option Nat} (ha : w[q0]? = some (a, .inl (T 2, n, .inr (.inr (.inr (.inr f)))))) (hv : w[qk]? = some (v, .inr (0, vs))) (k : Nat) {i : Int32} (hi : i = nI k) (hkn : k < n) (hn : n < 2 ^ 31) (hdg : decode cc pc = .ok (.aastore, 1))
    (kk : ∀ (H1 : Heap) (locs1 : List Loc), va_P G vwCl (w.set q0 (a, .inl (T 2, n, .inr (.inr (.inr (.inr (va_up f k (some v)))))))) H1 → va_D A (w.set q0 (a, .inl (T 2, n, .inr (.inr (.inr (.inr (va_up f k (some v)))))))) → va_S A H0 H1 locs1 → W p l e R s m args below meth c H1 locs1 cells slots Q (F0 m (pc + 1) ls rest)) : W p l e R s m args below meth c H locs cells slots Q (F0 m pc ls (.ref v :: .int i :: .ref a :: rest)) := by
  subst hi
  refine va_astq hexec hb hk.1 hP hD hS q0 2 qk 0 ha rfl hv rfl (vp_in_nI hkn hn) hdg ?_
  rw [nI_clamp (Nat.lt_trans hkn hn)]
  exact kk
theorem bst (hexec : p.tables.exec = Jvm.exec) (hb : c.code = cc) (hk : kx G T s) (hP : va_P G vwCl w H) (hD : va_D A w) (hS : va_S A H0 H locs) (q0 : Nat) {n : Nat} {f : Nat → Int32} (ha : w[q0]? = some (a, .inl (T 1, n, .inl f))) (k : Nat) {i x y : Int32} (hi : i = nI k) (hkn : k < n) (hn : n < 2 ^ 31) (hy : x.toInt8.toInt32 = y) (hdg : decode cc pc = .ok (.bastore, 1))
    (kk : ∀ (H1 : Heap) (locs1 : List Loc), va_P G vwCl (w.set q0 (a, .inl (T 1, n, .inl (upd f k y)))) H1 → va_D A (w.set q0 (a, .inl (T 1, n, .inl (upd f k y)))) → va_S A H0 H1 locs1 → W p l e R s m args below meth c H1 locs1 cells slots Q (F0 m (pc + 1) ls rest)) : W p l e R s m args below meth c H locs cells slots Q (F0 m pc ls (.int x :: .int i :: .ref a :: rest)) := by
  subst hi; subst hy
  refine va_bast hexec hb hk.1 hP hD hS q0 1 ha rfl (vp_in_nI hkn hn) hdg ?_
  rw [nI_clamp (Nat.lt_trans hkn hn), vp_nar_byte]
  exact kk
theorem ba (hexec : p.tables.exec = Jvm.exec) (hb : c.code = cc) (hk : kx G T s) (hP : va_P G vwCl w H) (q0 : Nat) {n : Nat} {f : Nat → Int32} (ha : w[q0]? = some (a, .inl (T 1, n, .inl f))) (k : Nat) {i : Int32} (hi : i = nI k) (hkn : k < n) (hn : n < 2 ^ 31) (hdg : decode cc pc = .ok (.baload, 1))
    (kk : W p l e R s m args below meth c H locs cells slots Q (F0 m (pc + 1) ls (.int (f k) :: rest))) : W p l e R s m args below meth c H locs cells slots Q (F0 m pc ls (.int i :: .ref a :: rest)) := by
  subst hi
  refine va_bald hexec hb hk.1 hP q0 1 ha rfl (vp_in_nI hkn hn) hdg ?_
  rw [nI_clamp (Nat.lt_trans hkn hn)]
  exact kk
theorem aln (hexec : p.tables.exec = Jvm.exec) (hb : c.code = cc) (hk : kx G T s) (hP : va_P G vwCl w H) (q0 t0 : Nat) {n : Nat} {x : (Nat → Int32) ⊕ (Nat → Int64) ⊕ (Nat → UInt32) ⊕ (Nat → UInt64) ⊕ (Nat → Option Nat)} {ty : FieldType} (ht : (tk T)[t0]? = some (T t0, ty)) (ha : w[q0]? = some (a, .inl (T t0, n, x))) (hdg : decode cc pc = .ok (.arraylength, 1))
    (kk : W p l e R s m args below meth c H locs cells slots Q (F0 m (pc + 1) ls (.int (nI n) :: rest))) : W p l e R s m args below meth c H locs cells slots Q (F0 m pc ls (.ref a :: rest)) :=
  va_alen hexec hb hk.1 hP q0 t0 ha ht rfl hdg kk
end AQ
end SKIT5
