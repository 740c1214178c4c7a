/-! what stands fast at the start of the law -/
section START
theorem arr_K {args : Array Value} {s : State} {t : FieldType} (h : (Cond.arrayClass t).before args s = true) (ho : ∀ n, ¬ t = .object n) : ∃ cA, ArrOfT s cA t ∧ s.vm.findClass ("[" ++ t.toString) = some cA := by
  obtain ⟨cA, k, comp, h1, h2, h3⟩ := Cond.arrayClass_spec h
  exact ⟨cA, fun n z => ⟨fun k h => (by cases h), k, h2, comp, h3⟩, h1⟩
theorem arr_O {args : Array Value} {s : State} {C : String} (h : (Cond.arrayOver (.object C)).before args s = true) : ∃ cA, ArrOfT s cA (.object C) ∧ va_RA s cA (.object C) := by
  obtain ⟨comp, cA, k, h1, -, h3, h4, h5⟩ := Cond.arrayOver_spec h
  exact ⟨cA, fun n z => ⟨fun k h => (by cases h), k, h3, comp, h4⟩, ⟨k, comp, h3, h4, h1, h5⟩⟩
theorem start_kx {args : Array Value} {s : State} (hts : ∀ w ∈ lw_tbl, w.before args s = true) : ∃ (G : va_G) (T : Nat → ClassId), kx G T s := by
  obtain ⟨c0, i0, h0⟩ := u_known (C := RX0) (T := TX0) (N := 4) (n := 4) hts inX0 (hts _ st_ins_RX0)
  obtain ⟨c1, i1, h1⟩ := u_known (C := RX1) (T := TX1) (N := 7) (n := 7) hts inX1 (hts _ st_ins_RX1)
  obtain ⟨c2, i2, h2⟩ := u_known (C := RX2) (T := TX2) (N := 6) (n := 6) hts inX2 (hts _ st_ins_RX2)
  obtain ⟨c3, i3, h3⟩ := u_known (C := RX3) (T := TX3) (N := 7) (n := 7) hts inX3 (hts _ st_ins_RX3)
  obtain ⟨c4, i4, h4⟩ := u_known (C := RX4) (T := TX4) (N := 5) (n := 5) hts inX4 (hts _ st_ins_RX4)
  obtain ⟨c5, i5, h5⟩ := u_known (C := RX5) (T := TX5) (N := 4) (n := 4) hts inX5 (hts _ st_ins_RX5)
  obtain ⟨a0, g0, r0⟩ := arr_K (hts _ st_arr_int) (fun n h => by cases h)
  obtain ⟨a1, g1, r1⟩ := arr_K (hts _ st_arr_byte) (fun n h => by cases h)
  obtain ⟨a2, g2, r2⟩ := arr_O (hts _ st_ovr)
  refine ⟨(fun k => [c0, c1, c2, c3, c4, c5].getD k 0, fun k => [i0, i1, i2, i3, i4, i5].getD k i0), fun k => [a0, a1, a2].getD k 0, ⟨?_, ?_⟩, ?_⟩
  · intro k q hq
    match k, hq with
    | 0, hq => cases hq; exact h0
    | 1, hq => cases hq; exact h1
    | 2, hq => cases hq; exact h2
    | 3, hq => cases hq; exact h3
    | 4, hq => cases hq; exact h4
    | 5, hq => cases hq; exact h5
    | k + 6, hq => simp [vwCl] at hq
  · intro k q hq
    match k, hq with
    | 0, hq => cases hq; exact ⟨g0, r0⟩
    | 1, hq => cases hq; exact ⟨g1, r1⟩
    | 2, hq => cases hq; exact ⟨g2, r2⟩
    | k + 3, hq => simp [tk] at hq
  · exact ⟨va_Nw.of rfl (hts _ st_nst_0), va_Nw.of rfl (hts _ st_nst_1), va_Nw.of rfl (hts _ st_nst_2), va_Nw.of rfl (hts _ st_nst_3), va_Nw.of rfl (hts _ st_nst_4), va_Nw.of rfl (hts _ st_nst_5), va_Nw.of rfl (hts _ st_nst_6), va_Nw.of rfl (hts _ st_nst_7), va_Nw.of rfl (hts _ st_nst_8)⟩
abbrev sJ : String := "java/lang/String"
abbrev gvn : List Cond := flatC (Jvm.Cond.and given_1 narrow_1)
theorem gv_nc : ∀ w ∈ [Cond.isRef (.static Bundle.tN "UNASSIGNED_STACK" Bundle.steD), .isRef (.static Bundle.tN "SUPPRESSED_SENTINEL" Bundle.listD), .exactly (.string RX5 235) sJ, .exactly (.string RX5 246) sJ, .exactly (.string RX5 251) sJ], w ∈ gvn := by decide +kernel
theorem str_ex {args : Array Value} {s : State} {k : Nat} {tx : String} (h1 : (Cond.stringRef RX5 k tx).before args s = true) (h2 : (Cond.exactly (.string RX5 k) sJ).before args s = true) : ∃ a, vk_R RX5 k tx a s := by
  obtain ⟨a, c, cA, kA, q1, -⟩ := Cond.exactly_spec (args := args) (first := s) (o := none) (s := s) (idx := []) h2
  exact ⟨a, vk_R.of h1 q1⟩
theorem start_thr {args : Array Value} {s : State} {A : Nat → Prop} (hts : ∀ w ∈ lw_tbl, w.before args s = true) (hg : ∀ w ∈ gvn, w.before args s = true) (hA : ∀ a : Nat, a < s.heap.size → ¬ A a) : ∃ sa : Nat → Nat, thr sa A s s.heap := by
  obtain ⟨a0, h0⟩ := str_ex (hts _ st_str_235) (hg _ (gv_nc _ (List.mem_of_getElem? (i := 2) rfl)))
  obtain ⟨a1, h1⟩ := str_ex (hts _ st_str_246) (hg _ (gv_nc _ (List.mem_of_getElem? (i := 3) rfl)))
  obtain ⟨a2, h2⟩ := str_ex (hts _ st_str_251) (hg _ (gv_nc _ (List.mem_of_getElem? (i := 4) rfl)))
  refine ⟨fun i => [a0, a1, a2].getD i 0, ⟨va_Nw.of rfl (hts _ st_dcl_0), va_Nw.of rfl (hts _ st_dcl_1), va_Nw.of rfl (hts _ st_dcl_2), va_Nw.of rfl (hts _ st_cas_eI), va_Nw.of rfl (hts _ st_cas_eA), va_Nw.of rfl (hts _ st_cas_eS)⟩, ?_, ?_, h0, h1, h2⟩
  · exact vx_Zqof (hts _ st_lay_0) (hts _ st_ini_T) (hg _ (gv_nc _ (List.mem_of_getElem? (i := 0) rfl))) hA
  · exact vx_Zqof (hts _ st_lay_1) (hts _ st_ini_T) (hg _ (gv_nc _ (List.mem_of_getElem? (i := 1) rfl))) hA
abbrev lA (s : State) : Nat → Prop := fun q => s.heap.size ≤ q
/-- what stands fast all along the law -/
def LK (G : va_G) (T : Nat → ClassId) (sa : Nat → Nat) (p : Program) (s : State) (m : MethodId) (c : Code) (b LL : Nat) (xs : Nat → Int32) : Prop :=
  CallFix p m c code 13 s ([.ref b] : List Value).toArray wsL_law RL ∧ kx G T s ∧ thr sa (lA s) s s.heap ∧ va_X b LL xs s s.heap ∧ b < s.heap.size ∧ LL ≤ 260
theorem start_K {p : Program} {s : State} {m : MethodId} {meth : Method} {c : Code} {b LL : Nat} {xs : Nat → Int32} (hL : LL ≤ 260) (C0 : lw_At p s m meth c b LL xs) : ∃ (G : va_G) (T : Nat → ClassId) (sa : Nat → Nat), LK G T sa p s m c b LL xs ∧ va_AO "SunsetDates$Calendar" s := by
  obtain ⟨hx, hb, hr, hml, hown, hts, hX, hbl, hlocks, hgv⟩ := id C0
  have hg : ∀ w ∈ gvn, w.before #[Value.ref b] s = true := flat_of_before _ hgv
  have hA : ∀ a : Nat, a < s.heap.size → ¬ lA s a := fun a h => Nat.not_le.mpr h
  obtain ⟨G, T, hk⟩ := start_kx hts
  obtain ⟨sa, ht⟩ := start_thr hts hg hA
  exact ⟨G, T, sa, ⟨⟨hx, hb, hml, hown, fun w h => hts w (wsL_law_in w h)⟩, hk, ht, hX, hbl, hL⟩, va_AO.of (hts _ st_ovr)⟩
end START
