/-! the writers keep what holds of a calendar -/
theorem rng_nI {k n : Nat} (hk : k < 2 ^ n) (hn : n ≤ 30) : 0 ≤ (nI k).toInt ∧ (nI k).toInt < 2 ^ n := by
  have h : k < 2 ^ 31 := Nat.lt_of_lt_of_le hk (Nat.pow_le_pow_right (by decide) (by omega))
  rw [nI_toInt h]
  exact ⟨by omega, by exact_mod_cast hk⟩
theorem rng_bits {x : Int32} {n : Nat} (hn : n ≤ 30) (h : ∀ i, n ≤ i → i < 32 → bt x i = false) : 0 ≤ x.toInt ∧ x.toInt < 2 ^ n := by
  obtain ⟨k, hk, rfl⟩ := ofbits h
  exact rng_nI hk hn
theorem wf_pl {N : Nat → Nat} {Z : Nat → Nat → Int32} (hw : wf N Z) {u : Nat} {v d : Int32} (h : (v = -1 ∧ d = -1) ∨ (∃ k, k < N 0 ∧ v = nI k ∧ 0 ≤ d.toInt ∧ d.toInt ≤ 999)) : wf N (uPl Z u v d) := by
  obtain ⟨h1, h2, h3, h4, h5, h6, h7⟩ := hw
  refine ⟨h1, h2, h3, fun k hk => ?_, h5, h6, h7⟩
  show (upd (Z 7) u v k = -1 ∧ upd (Z 8) u d k = -1) ∨ (∃ j, j < N 0 ∧ upd (Z 7) u v k = nI j ∧ 0 ≤ (upd (Z 8) u d k).toInt ∧ (upd (Z 8) u d k).toInt ≤ 999)
  by_cases q : k = u
  · subst q; rw [pk_us, pk_us]; exact h
  · rw [pk_un q, pk_un q]; exact h4 k hk
theorem i3add {x : Int32} {i : Nat} (h0 : 0 ≤ x.toInt) (h : x.toInt ≤ 2000) (hi : i ≤ 2000) : (x + nI i).toInt = x.toInt + i := by
  obtain ⟨k, hk, rfl⟩ := nI_of (x := x) (by rw [i3lt]; have z0 : Int32.toInt 0 = 0 := rfl; omega)
  rw [nI_toInt hk] at h0 h
  rw [nI_add, nI_toInt (by omega), nI_toInt hk]; omega
theorem wf_sl {N : Nat → Nat} {Z : Nat → Nat → Int32} (hw : wf N Z) {u i : Nat} (hu : u < N 2) (hi : i ≤ 99) (hp : pled Z u = true) (h : Z 8 u + nI i ≤ 999) : wf N (uSl Z u (nI i)) := by
  obtain ⟨h1, h2, h3, h4, h5, h6, h7⟩ := hw
  refine ⟨h1, h2, h3, fun k hk => ?_, h5, h6, h7⟩
  show (Z 7 k = -1 ∧ upd (Z 8) u (Z 8 u + nI i) k = -1) ∨ (∃ j, j < N 0 ∧ Z 7 k = nI j ∧ 0 ≤ (upd (Z 8) u (Z 8 u + nI i) k).toInt ∧ (upd (Z 8) u (Z 8 u + nI i) k).toInt ≤ 999)
  by_cases q : k = u
  · subst q; rw [pk_us]
    rcases h4 k hk with ⟨e, -⟩ | ⟨j, hj, e, e0, e9⟩
    · exact absurd e (of_decide_eq_true hp)
    · refine Or.inr ⟨j, hj, e, ?_, ?_⟩
      · rw [i3add e0 (by omega) (by omega)]; omega
      · rw [i3le] at h; exact h
  · rw [pk_un q]; exact h4 k hk
theorem wf_ex {N : Nat → Nat} {Z : Nat → Nat → Int32} (hw : wf N Z) {v i : Nat} (hi : i ≤ 99) (h : Z 2 v + nI i ≤ 1000) : wf N (vExt Z v (nI i)) := by
  obtain ⟨h1, h2, h3, h4, h5, h6, h7⟩ := hw
  refine ⟨h1, fun k hk => ?_, h3, h4, h5, h6, h7⟩
  show 0 ≤ (Z 1 k).toInt ∧ (Z 1 k).toInt < (upd (Z 2) v (Z 2 v + nI i) k).toInt ∧ (upd (Z 2) v (Z 2 v + nI i) k).toInt ≤ 1000
  obtain ⟨a0, a1, a2⟩ := h2 k hk
  by_cases q : k = v
  · subst q; rw [pk_us]
    rw [i3le] at h
    refine ⟨a0, ?_, h⟩
    rw [i3add (by omega) (by omega) (by omega)]; omega
  · rw [pk_un q]; exact ⟨a0, a1, a2⟩
theorem wf_sh {N : Nat → Nat} {Z : Nat → Nat → Int32} (hw : wf N Z) {f v x z y : Int32} (h12 : N 3 < 12) (h : (∃ k, k < N 1 ∧ f = nI k) ∧ (∃ k, k < N 0 ∧ v = nI k) ∧ 0 ≤ x.toInt ∧ x.toInt ≤ 999 ∧ 0 ≤ z.toInt ∧ z.toInt ≤ 999 ∧ 1 ≤ y.toInt ∧ y.toInt ≤ 99) : wf (va_up N 3 (N 3 + 1)) (sAdd N Z f v x z y) := by
  obtain ⟨h1, h2, h3, h4, h5, h6, h7⟩ := hw
  refine ⟨⟨h1.1, h1.2.1, h1.2.2.1, ?_⟩, h2, h3, h4, fun k hk => ?_, h6, h7⟩
  · show N 3 + 1 ≤ 12; omega
  · replace hk : k < N 3 + 1 := hk
    show (∃ j, j < N 1 ∧ upd (Z 11) (N 3) f k = nI j) ∧ (∃ j, j < N 0 ∧ upd (Z 12) (N 3) v k = nI j) ∧ 0 ≤ (upd (Z 13) (N 3) x k).toInt ∧ (upd (Z 13) (N 3) x k).toInt ≤ 999 ∧ 0 ≤ (upd (Z 14) (N 3) z k).toInt ∧ (upd (Z 14) (N 3) z k).toInt ≤ 999 ∧ 1 ≤ (upd (Z 15) (N 3) y k).toInt ∧ (upd (Z 15) (N 3) y k).toInt ≤ 99
    by_cases q : k = N 3
    · subst q; simp only [pk_us]; exact h
    · simp only [pk_un q]; exact h5 k (by omega)
theorem wf_dr {N : Nat → Nat} {Z : Nat → Nat → Int32} (hw : wf N Z) {t : Nat} (ht : t < N 3) : wf (va_up N 3 (N 3 - 1)) (sDel Z t (N 3 - 1)) := by
  obtain ⟨h1, h2, h3, h4, h5, h6, h7⟩ := hw
  refine ⟨⟨h1.1, h1.2.1, h1.2.2.1, ?_⟩, h2, h3, h4, fun k hk => ?_, h6, h7⟩
  · show N 3 - 1 ≤ 12; omega
  · replace hk : k < N 3 - 1 := hk
    show (∃ j, j < N 1 ∧ shf (Z 11) t (N 3 - 1) k = nI j) ∧ (∃ j, j < N 0 ∧ shf (Z 12) t (N 3 - 1) k = nI j) ∧ 0 ≤ (shf (Z 13) t (N 3 - 1) k).toInt ∧ (shf (Z 13) t (N 3 - 1) k).toInt ≤ 999 ∧ 0 ≤ (shf (Z 14) t (N 3 - 1) k).toInt ∧ (shf (Z 14) t (N 3 - 1) k).toInt ≤ 999 ∧ 1 ≤ (shf (Z 15) t (N 3 - 1) k).toInt ∧ (shf (Z 15) t (N 3 - 1) k).toInt ≤ 99
    unfold shf
    by_cases q : t ≤ k ∧ k < N 3 - 1
    · simp only [if_pos q]; exact h5 (k + 1) (by omega)
    · simp only [if_neg q]; exact h5 k (by omega)
theorem wf_av {N : Nat → Nat} {Z : Nat → Nat → Int32} (hw : wf N Z) {x z : Int32} (h8 : N 0 < 8) (h : 0 ≤ x.toInt ∧ x.toInt < z.toInt ∧ z.toInt ≤ 1000) : wf (va_up N 0 (N 0 + 1)) (vAdd N Z x z) := by
  obtain ⟨h1, h2, h3, h4, h5, h6, h7⟩ := hw
  refine ⟨⟨?_, h1.2.1, h1.2.2.1, h1.2.2.2⟩, fun k hk => ?_, fun u hu => ?_, fun u hu => ?_, fun t ht => ?_, fun k hk => ?_, h7⟩
  · show N 0 + 1 ≤ 8; omega
  · replace hk : k < N 0 + 1 := hk
    show 0 ≤ (upd (Z 1) (N 0) x k).toInt ∧ (upd (Z 1) (N 0) x k).toInt < (upd (Z 2) (N 0) z k).toInt ∧ (upd (Z 2) (N 0) z k).toInt ≤ 1000
    by_cases q : k = N 0
    · subst q; simp only [pk_us]; exact h
    · simp only [pk_un q]; exact h2 k (by omega)
  · obtain ⟨k, hk, e⟩ := h3 u hu
    exact ⟨k, Nat.lt_succ_of_lt hk, e⟩
  · rcases h4 u hu with e | ⟨k, hk, e⟩
    · exact Or.inl e
    · exact Or.inr ⟨k, Nat.lt_succ_of_lt hk, e⟩
  · obtain ⟨a, ⟨k, hk, e⟩, b⟩ := h5 t ht
    exact ⟨a, ⟨k, Nat.lt_succ_of_lt hk, e⟩, b⟩
  · replace hk : k < N 0 + 1 := hk
    show 0 ≤ (upd (Z 4) (N 0) 0 k).toInt ∧ (upd (Z 4) (N 0) 0 k).toInt < 2 ^ N 1
    by_cases q : k = N 0
    · subst q; rw [pk_us]
      exact rng_nI (k := 0) (Nat.pow_pos (by decide)) (by omega)
    · rw [pk_un q]; exact h6 k (by omega)
theorem wf_au {N : Nat → Nat} {Z : Nat → Nat → Int32} (hw : wf N Z) {v x : Int32} (h10 : N 2 < 10) (hv : ∃ k, k < N 0 ∧ v = nI k) (hx : 0 ≤ x.toInt ∧ x.toInt < 2 ^ N 1) : wf (va_up N 2 (N 2 + 1)) (uAdd N Z v x) := by
  obtain ⟨h1, h2, h3, h4, h5, h6, h7⟩ := hw
  refine ⟨⟨h1.1, h1.2.1, ?_, h1.2.2.2⟩, h2, fun u hu => ?_, fun u hu => ?_, h5, h6, fun u hu => ?_⟩
  · show N 2 + 1 ≤ 10; omega
  · replace hu : u < N 2 + 1 := hu
    show ∃ k, k < N 0 ∧ upd (Z 5) (N 2) v u = nI k
    by_cases q : u = N 2
    · subst q; rw [pk_us]; exact hv
    · rw [pk_un q]; exact h3 u (by omega)
  · replace hu : u < N 2 + 1 := hu
    show (upd (Z 7) (N 2) (-1) u = -1 ∧ upd (Z 8) (N 2) (-1) u = -1) ∨ (∃ k, k < N 0 ∧ upd (Z 7) (N 2) (-1) u = nI k ∧ 0 ≤ (upd (Z 8) (N 2) (-1) u).toInt ∧ (upd (Z 8) (N 2) (-1) u).toInt ≤ 999)
    by_cases q : u = N 2
    · subst q; rw [pk_us, pk_us]; exact Or.inl ⟨rfl, rfl⟩
    · rw [pk_un q, pk_un q]; exact h4 u (by omega)
  · replace hu : u < N 2 + 1 := hu
    show 0 ≤ (upd (Z 6) (N 2) x u).toInt ∧ (upd (Z 6) (N 2) x u).toInt < 2 ^ N 1
    by_cases q : u = N 2
    · subst q; rw [pk_us]; exact hx
    · rw [pk_un q]; exact h7 u (by omega)
