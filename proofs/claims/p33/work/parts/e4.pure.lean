/-! days and sets: what the law's questions rest on -/
theorem fstD_sp (p : Nat → Bool) : ∀ (n k : Nat), (fstD p k n = -1 ∧ ∀ j, k ≤ j → j < k + n → p j = false) ∨ ∃ j, k ≤ j ∧ j < k + n ∧ fstD p k n = nI j ∧ p j = true ∧ ∀ i, k ≤ i → i < j → p i = false
  | 0, k => Or.inl ⟨rfl, fun j a b => by omega⟩
  | n + 1, k => by
    by_cases q : p k = true
    · exact Or.inr ⟨k, Nat.le_refl _, by omega, by rw [fstD, if_pos q], q, fun i a b => by omega⟩
    · have qf : p k = false := Bool.eq_false_iff.mpr q
      rcases fstD_sp p n (k + 1) with ⟨e, h⟩ | ⟨j, h1, h2, e, h3, h4⟩
      · refine Or.inl ⟨by rw [fstD, if_neg q, e], fun j a b => ?_⟩
        rcases Nat.lt_or_ge k j with g | g
        · exact h j (by omega) (by omega)
        · obtain rfl : j = k := by omega
          exact qf
      · refine Or.inr ⟨j, by omega, by omega, by rw [fstD, if_neg q, e], h3, fun i a b => ?_⟩
        rcases Nat.lt_or_ge k i with g | g
        · exact h4 i (by omega) b
        · obtain rfl : i = k := by omega
          exact qf
theorem fstD_none {p : Nat → Bool} {k n : Nat} (h : ∀ j, k ≤ j → j < k + n → p j = false) : fstD p k n = -1 := by
  rcases fstD_sp p n k with ⟨e, -⟩ | ⟨j, h1, h2, -, h3, -⟩
  · exact e
  · rw [h j h1 h2] at h3; cases h3
theorem fstD_some {p : Nat → Bool} {k n j : Nat} (h1 : k ≤ j) (h2 : j < k + n) (h3 : p j = true) : ∃ i, fstD p k n = nI i ∧ k ≤ i ∧ i < k + n := by
  rcases fstD_sp p n k with ⟨-, h⟩ | ⟨i, g1, g2, e, -, -⟩
  · rw [h j h1 h2] at h3; cases h3
  · exact ⟨i, e, g1, g2⟩
theorem sfD_sp (p : Nat → Bool) (f : Nat) : ∀ n, (∀ j, sfD p f n ≤ j → j < f + n → p j = false) ∧ (sfD p f n = f ∨ ∃ i, f ≤ i ∧ i < f + n ∧ sfD p f n = i + 1 ∧ p i = true)
  | 0 => ⟨fun j a b => by rw [sfD] at a; omega, Or.inl rfl⟩
  | n + 1 => by
    obtain ⟨h1, h2⟩ := sfD_sp p f n
    rw [sfD]
    split
    · rename_i q
      exact ⟨fun j a b => by omega, Or.inr ⟨f + n, by omega, by omega, rfl, q⟩⟩
    · rename_i q
      refine ⟨fun j a b => ?_, ?_⟩
      · rcases Nat.lt_or_ge j (f + n) with g | g
        · exact h1 j a g
        · obtain rfl : j = f + n := by omega
          exact Bool.eq_false_iff.mpr q
      · rcases h2 with e | ⟨i, a, b, e, g⟩
        · exact Or.inl e
        · exact Or.inr ⟨i, a, by omega, e, g⟩
theorem smD_add (g : Nat → Int32) (f m : Nat) : ∀ n, smD g f (m + n) = smD g f m + smD g (f + m) n
  | 0 => by rw [smD, Nat.add_zero, Int32.add_zero]
  | n + 1 => by rw [← Nat.add_assoc, smD, smD, smD_add g f m n, Int32.add_assoc, Nat.add_assoc f m n]
/-! a pledge in place of the one before -/
theorem actS_pl (Z : Nat → Nat → Int32) (u : Nat) (v d x j : Int32) : ∀ n, actS (uPl Z u v d) x j n = actS Z x j n
  | 0 => rfl
  | n + 1 => by
    rw [actS, actS, actS_pl Z u v d x j n]
    rfl
theorem uns_pl (N : Nat → Nat) (Z : Nat → Nat → Int32) (u : Nat) (v d x : Int32) (w : Nat) (j : Int32) : uns N (uPl Z u v d) x w j = uns N Z x w j := by
  unfold uns
  rw [actS_pl]
  rfl
theorem on_pl {N : Nat → Nat} {Z : Nat → Nat → Int32} (hw : wf N Z) {u t k j : Nat} (hu : u < N 2) (ht : t < N 0) (hk : k ≤ 999) (hj : j ≤ 999) : onN (uPl Z u (nI t) (nI k)) u (nI j) = if k ≤ j then t else fvN Z u := by
  have hb := hw.1
  have e7 : (uPl Z u (nI t) (nI k)) 7 u = nI t := (pk_us : upd (Z 7) u (nI t) u = nI t)
  have e8 : (uPl Z u (nI t) (nI k)) 8 u = nI k := (pk_us : upd (Z 8) u (nI k) u = nI k)
  have e5 : (uPl Z u (nI t) (nI k)) 5 u = Z 5 u := rfl
  have hp : pled (uPl Z u (nI t) (nI k)) u = true := by unfold pled; rw [e7]; exact decide_eq_true (nIm1 (by omega))
  unfold onN onI
  rw [hp, e7, e8, e5]
  by_cases c : k ≤ j
  · rw [if_pos ⟨rfl, (nI_leI (by omega) (by omega)).mpr c⟩, if_pos c, nI_clamp (by omega)]
  · rw [if_neg (fun q => c ((nI_leI (by omega) (by omega)).mp q.2)), if_neg c]; rfl
theorem unU_pl {N : Nat → Nat} {Z : Nat → Nat → Int32} (hw : wf N Z) {u t k j : Nat} (hu : u < N 2) (ht : t < N 0) (hk : k ≤ 999) (hj : j ≤ 999) : unU N (uPl Z u (nI t) (nI k)) u (nI j) = uns N Z (Z 6 u) (if k ≤ j then t else fvN Z u) (nI j) := by
  unfold unU
  rw [on_pl hw hu ht hk hj, uns_pl]
  rfl
theorem uuB_pl {N : Nat → Nat} {Z : Nat → Nat → Int32} (hw : wf N Z) {u t k j : Nat} (hu : u < N 2) (ht : t < N 0) (hk : k ≤ 999) (hj : j ≤ 999) : uuB N (uPl Z u (nI t) (nI k)) u j = unB N Z (Z 6 u) (if k ≤ j then t else fvN Z u) j := by
  unfold uuB unB
  rw [unU_pl hw hu ht hk hj]
/-- the latest move: the first version does up to the day before it, the other one from it on; one day later it fails -/
theorem ltP_sp (N : Nat → Nat) (Z : Nat → Nat → Int32) (u v : Nat) {f : Nat} (hf : f ≤ 999) :
    (ltP N Z u v f = -1 ∧ ∃ i, f ≤ i ∧ i < 1000 ∧ unB N Z (Z 6 u) v i = true) ∨
    (∃ e, ltP N Z u v f = nI e ∧ f ≤ e ∧ e ≤ 999 ∧ (∀ j, f ≤ j → j < e → unB N Z (Z 6 u) (fvN Z u) j = false) ∧ (∀ j, e ≤ j → j < 1000 → unB N Z (Z 6 u) v j = false) ∧ (e = 999 ∨ unB N Z (Z 6 u) (fvN Z u) e = true)) := by
  obtain ⟨s1, s2⟩ := sfD_sp (unB N Z (Z 6 u) v) f (1000 - f)
  have s3 := sfD_le (unB N Z (Z 6 u) v) f (1000 - f)
  have key : ∃ e, (if fstD (unB N Z (Z 6 u) (fvN Z u)) f (1000 - f) = -1 then 999 else fstD (unB N Z (Z 6 u) (fvN Z u)) f (1000 - f)) = nI e ∧ f ≤ e ∧ e ≤ 999 ∧ (∀ j, f ≤ j → j < e → unB N Z (Z 6 u) (fvN Z u) j = false) ∧ (e = 999 ∨ unB N Z (Z 6 u) (fvN Z u) e = true) := by
    rcases fstD_sp (unB N Z (Z 6 u) (fvN Z u)) (1000 - f) f with ⟨e, h⟩ | ⟨j, h1, h2, e, h3, h4⟩
    · exact ⟨999, by rw [e, if_pos rfl]; rfl, hf, Nat.le_refl _, fun j a b => h j a (by omega), Or.inl rfl⟩
    · exact ⟨j, by rw [e, if_neg (nIm1 (by omega))], h1, by omega, h4, Or.inr h3⟩
  obtain ⟨e, he, k1, k2, k3, k4⟩ := key
  unfold ltP
  rw [he]
  by_cases c : sfD (unB N Z (Z 6 u) v) f (1000 - f) ≤ e
  · rw [if_pos ((nI_leI (by omega) (by omega)).mpr c)]
    exact Or.inr ⟨e, rfl, k1, k2, k3, fun j a b => s1 j (by omega) (by omega), k4⟩
  · rw [if_neg (fun q => c ((nI_leI (by omega) (by omega)).mp q))]
    rcases s2 with g | ⟨i, a, b, g, g2⟩
    · omega
    · exact Or.inl ⟨rfl, i, a, by omega, g2⟩
theorem mv_none {N : Nat → Nat} {Z : Nat → Nat → Int32} (hw : wf N Z) {u v f : Nat} (hu : u < N 2) (hv : v < N 0) (hf : f ≤ 999) (h : ltP N Z u v f = -1) : ∃ i, fstD (uuB N (uPl Z u (nI v) (nI f)) u) f (1000 - f) = nI i ∧ i < 1000 := by
  rcases ltP_sp N Z u v hf with ⟨-, i, a, b, g⟩ | ⟨e, he, h1, h2, -⟩
  · obtain ⟨k, e, -, k2⟩ := fstD_some (p := uuB N (uPl Z u (nI v) (nI f)) u) (k := f) (n := 1000 - f) a (by omega) (by rw [uuB_pl hw hu hv hf (by omega), if_pos a]; exact g)
    exact ⟨k, e, by omega⟩
  · rw [h] at he; exact absurd he.symm (nIm1 (by omega))
theorem mv_some {N : Nat → Nat} {Z : Nat → Nat → Int32} (hw : wf N Z) {u v f : Nat} (hu : u < N 2) (hv : v < N 0) (hf : f ≤ 999) (h : ¬ ltP N Z u v f = -1) : ∃ e, ltP N Z u v f = nI e ∧ f ≤ e ∧ e ≤ 999 ∧ fstD (uuB N (uPl Z u (nI v) (nI e)) u) f (1000 - f) = -1 ∧ (e < 999 → ∃ i, fstD (uuB N (uPl Z u (nI v) (nI (e + 1))) u) f (1000 - f) = nI i ∧ i < 1000) := by
  rcases ltP_sp N Z u v hf with ⟨g, -⟩ | ⟨e, he, h1, h2, h3, h4, h5⟩
  · exact absurd g h
  · refine ⟨e, he, h1, h2, fstD_none (fun j a b => ?_), fun h9 => ?_⟩
    · rw [uuB_pl hw hu hv h2 (by omega)]
      by_cases c : e ≤ j
      · rw [if_pos c]; exact h4 j c (by omega)
      · rw [if_neg c]; exact h3 j a (by omega)
    · rcases h5 with g | g
      · omega
      · obtain ⟨k, e9, -, k2⟩ := fstD_some (p := uuB N (uPl Z u (nI v) (nI (e + 1))) u) (k := f) (n := 1000 - f) h1 (by omega) (by rw [uuB_pl hw hu hv (by omega) h2, if_neg (by omega)]; exact g)
        exact ⟨k, e9, by omega⟩
/-! the cheapest version, and the best -/
theorem vcl_sp (N : Nat → Nat) (Z : Nat → Nat → Int32) (x : Int32) (f l : Nat) : ∀ n, (vcl N Z x f l n).1 = -1 ∨ ∃ v, v < n ∧ (vcl N Z x f l n).1 = nI v ∧ fstD (unB N Z x v) f (l + 1 - f) = -1
  | 0 => Or.inl rfl
  | n + 1 => by
    rw [vcl]
    split
    · rename_i q; exact Or.inr ⟨n, by omega, rfl, q.1⟩
    · rcases vcl_sp N Z x f l n with e | ⟨v, h1, h2, h3⟩
      · exact Or.inl e
      · exact Or.inr ⟨v, by omega, h2, h3⟩
theorem ch_ok {N : Nat → Nat} {Z : Nat → Nat → Int32} (hw : wf N Z) {u v f w : Nat} (hu : u < N 2) (hv : v < N 0) (hf : f ≤ w) (hw9 : w ≤ 999) (h : fstD (unB N Z (Z 6 u) v) f (w + 1 - f) = -1) : fstD (uuB N (uPl Z u (nI v) (nI f)) u) f (1000 - f) = -1 ∨ nI w < fstD (uuB N (uPl Z u (nI v) (nI f)) u) f (1000 - f) := by
  rcases fstD_sp (uuB N (uPl Z u (nI v) (nI f)) u) (1000 - f) f with ⟨e, -⟩ | ⟨j, h1, h2, e, h3, -⟩
  · exact Or.inl e
  · right
    rw [e, nI_ltI (by omega) (by omega)]
    rw [uuB_pl hw hu hv (by omega) (by omega), if_pos h1] at h3
    rcases fstD_sp (unB N Z (Z 6 u) v) (w + 1 - f) f with ⟨-, g⟩ | ⟨i, g1, g2, e2, -⟩
    · refine Nat.not_le.mp (fun q => ?_)
      rw [g j h1 (by omega)] at h3; cases h3
    · rw [h] at e2; exact absurd e2.symm (nIm1 (by omega))
/-- of the versions from k on the best one is y, which leaves z -/
def bsP (N : Nat → Nat) (Z : Nat → Nat → Int32) (x d : Int32) (k n : Nat) (y z : Int32) : Prop :=
  (y = -1 ∧ ∀ v, k ≤ v → v < n → aliv Z v d = false) ∨ ∃ b, k ≤ b ∧ b < n ∧ y = nI b ∧ aliv Z b d = true ∧ z = bc (uns N Z x b d) ∧ ∀ v, k ≤ v → v < n → aliv Z v d = true → bc (uns N Z x b d) ≤ bc (uns N Z x v d) ∧ (v < b → bc (uns N Z x b d) < bc (uns N Z x v d))
theorem vsm_sp (N : Nat → Nat) (Z : Nat → Nat → Int32) (x d : Int32) : ∀ n, n < 2 ^ 31 → bsP N Z x d 0 n (vsm N Z x d n).1 (vsm N Z x d n).2
  | 0, _ => Or.inl ⟨rfl, fun v a b => by omega⟩
  | n + 1, hn => by
    have ih := vsm_sp N Z x d n (by omega)
    rw [vsm]
    split
    · rename_i q
      refine Or.inr ⟨n, Nat.zero_le _, by omega, rfl, q.1, rfl, fun v a b hv => ?_⟩
      rcases Nat.lt_or_ge v n with g | g
      · rcases ih with ⟨e, h⟩ | ⟨b2, g0, g1, e, g2, e2, h⟩
        · rw [h v a g] at hv; cases hv
        · have hlt : bc (uns N Z x n d) < bc (uns N Z x b2 d) := by
            rcases q.2 with c | c
            · rw [e] at c; exact absurd c (nIm1 (by omega))
            · rw [e2] at c; exact c
          have h9 := (h v a g hv).1
          rw [i3lt] at hlt
          rw [i3le] at h9
          refine ⟨by rw [i3le]; omega, fun _ => by rw [i3lt]; omega⟩
      · obtain rfl : v = n := by omega
        exact ⟨Int32.le_refl _, fun c => absurd c (Nat.lt_irrefl _)⟩
    · rename_i q
      rcases ih with ⟨e, h⟩ | ⟨b2, g0, g1, e, g2, e2, h⟩
      · refine Or.inl ⟨e, fun v a b => ?_⟩
        rcases Nat.lt_or_ge v n with g | g
        · exact h v a g
        · obtain rfl : v = n := by omega
          exact Bool.eq_false_iff.mpr (fun c => q ⟨c, Or.inl e⟩)
      · refine Or.inr ⟨b2, g0, by omega, e, g2, e2, fun v a b hv => ?_⟩
        rcases Nat.lt_or_ge v n with g | g
        · exact h v a g hv
        · obtain rfl : v = n := by omega
          have h9 : ¬ bc (uns N Z x v d) < bc (uns N Z x b2 d) := fun c => q ⟨hv, Or.inr (by rw [e2]; exact c)⟩
          exact ⟨Int32.not_lt.mp h9, fun c => by omega⟩
theorem bsP_one {N : Nat → Nat} {Z : Nat → Nat → Int32} {x d : Int32} {n : Nat} {y z y2 z2 : Int32} (h : bsP N Z x d 0 n y z) (h2 : bsP N Z x d 0 n y2 z2) : y = y2 := by
  rcases h with ⟨e, h⟩ | ⟨b, g0, g1, e, g2, e2, h⟩ <;> rcases h2 with ⟨f, k⟩ | ⟨b2, k0, k1, f, k2, f2, k⟩
  · rw [e, f]
  · rw [h b2 k0 k1] at k2; cases k2
  · rw [k b g0 g1] at g2; cases g2
  · have q1 := h b2 k0 k1 k2
    have q2 := k b g0 g1 g2
    rw [e, f]
    rcases Nat.lt_trichotomy b b2 with c | c | c
    · have r1 := q2.2 c
      have r2 := q1.1
      rw [i3lt] at r1; rw [i3le] at r2; omega
    · rw [c]
    · have r1 := q1.2 c
      have r2 := q2.1
      rw [i3lt] at r1; rw [i3le] at r2; omega
theorem bsP_no {N : Nat → Nat} {Z : Nat → Nat → Int32} {x d : Int32} {k n : Nat} {y z : Int32} (h : bsP N Z x d (k + 1) n y z) (ha : aliv Z k d = false) : bsP N Z x d k n y z := by
  rcases h with ⟨e, h⟩ | ⟨b, g0, g1, e, g2, e2, h⟩
  · refine Or.inl ⟨e, fun v a b => ?_⟩
    rcases Nat.lt_or_ge k v with g | g
    · exact h v g b
    · obtain rfl : v = k := by omega
      exact ha
  · refine Or.inr ⟨b, by omega, g1, e, g2, e2, fun v a c hv => ?_⟩
    rcases Nat.lt_or_ge k v with g | g
    · exact h v g c hv
    · obtain rfl : v = k := by omega
      rw [ha] at hv; cases hv
/-- one version more, from above: it is taken where it leaves no more -/
theorem bsP_ta {N : Nat → Nat} {Z : Nat → Nat → Int32} {x d : Int32} {k n : Nat} {y z : Int32} (hk : k < n) (h : bsP N Z x d (k + 1) n y z) (ha : aliv Z k d = true) (hc : bc (uns N Z x k d) ≤ z) : bsP N Z x d k n (nI k) (bc (uns N Z x k d)) := by
  refine Or.inr ⟨k, Nat.le_refl _, hk, rfl, ha, rfl, fun v a c hv => ?_⟩
  rcases Nat.lt_or_ge k v with g | g
  · refine ⟨?_, fun q => by omega⟩
    rcases h with ⟨e, h⟩ | ⟨b, g0, g1, e, g2, e2, h⟩
    · rw [h v g c] at hv; cases hv
    · have := (h v g c hv).1
      rw [e2] at hc
      exact Int32.le_trans hc this
  · obtain rfl : v = k := by omega
    exact ⟨Int32.le_refl _, fun q => absurd q (Nat.lt_irrefl _)⟩
theorem bsP_ke {N : Nat → Nat} {Z : Nat → Nat → Int32} {x d : Int32} {k n : Nat} {y z : Int32} (h : bsP N Z x d (k + 1) n y z) (h0 : ¬ y = -1) (hc : ¬ bc (uns N Z x k d) ≤ z) : bsP N Z x d k n y z := by
  rcases h with ⟨e, h⟩ | ⟨b, g0, g1, e, g2, e2, h⟩
  · exact absurd e h0
  · refine Or.inr ⟨b, by omega, g1, e, g2, e2, fun v a c hv => ?_⟩
    rcases Nat.lt_or_ge k v with g | g
    · exact h v g c hv
    · obtain rfl : v = k := by omega
      rw [e2] at hc
      have hc2 := Int32.not_le.mp hc
      refine ⟨?_, fun _ => hc2⟩
      rw [i3lt] at hc2; rw [i3le]; omega
/-! how many are in a set -/
theorem bcM_ct (x : Int32) : ∀ k, k ≤ 32 → bcM x k = nI (ctN (bt x) k)
  | 0, _ => rfl
  | k + 1, hk => by
    rw [bcM_st x (by omega), bcM_ct x k (by omega), ctN]
    split
    · exact nI_1 _
    · rw [Nat.add_zero]
theorem bc_ct {x : Int32} {n : Nat} (hn : n ≤ 10) (h : ∀ i, n ≤ i → bt x i = false) : bc x = nI (ctN (bt x) 10) := by
  obtain ⟨k, hk, e⟩ := ofbits (x := x) (n := n) (fun i hi _ => h i hi)
  have hk2 : k < 1024 := Nat.lt_of_lt_of_le hk (Nat.pow_le_pow_right (show 0 < 2 by decide) hn)
  rw [← bcM_ct x 10 (by decide), e]
  exact (bcM_bc k hk2).symm
theorem ctN_mono {p q : Nat → Bool} (h : ∀ i, p i = true → q i = true) : ∀ n, ctN p n ≤ ctN q n
  | 0 => Nat.le_refl _
  | n + 1 => by
    have := ctN_mono h n
    rw [ctN, ctN]
    by_cases c : p n = true
    · rw [if_pos c, if_pos (h n c)]; omega
    · rw [if_neg c]; omega
theorem ctN_or {p q r : Nat → Bool} (h : ∀ i, r i = (p i || q i)) : ∀ n, ctN r n ≤ ctN p n + ctN q n
  | 0 => Nat.le_refl _
  | n + 1 => by
    have := ctN_or h n
    rw [ctN, ctN, ctN, h n]
    cases p n <;> cases q n <;> simp <;> omega
theorem ctN_0 {p : Nat → Bool} : ∀ n, ctN p n = 0 → ∀ i, i < n → p i = false
  | 0, _, i, hi => absurd hi (Nat.not_lt_zero i)
  | n + 1, h, i, hi => by
    rw [ctN] at h
    rcases Nat.lt_or_ge i n with g | g
    · exact ctN_0 n (by omega) i g
    · obtain rfl : i = n := by omega
      refine Bool.eq_false_iff.mpr (fun q => ?_)
      rw [if_pos q] at h; omega
theorem unU_big {N : Nat → Nat} {Z : Nat → Nat → Int32} (hw : wf N Z) {u : Nat} (hu : u < N 2) (d : Int32) {i : Nat} (hi : N 1 ≤ i) : bt (unU N Z u d) i = false := by
  have hb := hw.1
  obtain ⟨h0, h1⟩ := hw.2.2.2.2.2.2 u hu
  have hx := bt_lt (by omega) h0 h1 hi
  unfold unU uns
  split
  · rw [b_and, hx]; rfl
  · exact hx
/-- what a user lacks, told as a number -/
def lcN (N : Nat → Nat) (Z : Nat → Nat → Int32) (d : Int32) (u : Nat) : Nat := ctN (bt (unU N Z u d)) 10
def unN (N : Nat → Nat) (Z : Nat → Nat → Int32) (d : Int32) : Nat → Nat
  | 0 => 0
  | u + 1 => unN N Z d u + lcN N Z d u
theorem unC_N {N : Nat → Nat} {Z : Nat → Nat → Int32} (hw : wf N Z) (d : Int32) : ∀ n, n ≤ N 2 → unC N Z d n = nI (unN N Z d n)
  | 0, _ => rfl
  | n + 1, hn => by rw [unC, unN, unC_N hw d n (by omega), bc_ct hw.1.2.1 (fun i hi => unU_big hw (by omega) d hi), nI_add]; rfl
theorem lcN_le (N : Nat → Nat) (Z : Nat → Nat → Int32) (d : Int32) (u : Nat) : lcN N Z d u ≤ 10 := ctN_le _ _
theorem unN_le (N : Nat → Nat) (Z : Nat → Nat → Int32) (d : Int32) : ∀ n, unN N Z d n ≤ 10 * n
  | 0 => Nat.le_refl _
  | n + 1 => by have := unN_le N Z d n; have := lcN_le N Z d n; rw [unN]; omega
/-- what the users on version v lack -/
def lvN (N : Nat → Nat) (Z : Nat → Nat → Int32) (d : Int32) (v : Nat) : Nat → Nat
  | 0 => 0
  | u + 1 => lvN N Z d v u + (if onN Z u d = v then lcN N Z d u else 0)
theorem lak_lv (N : Nat → Nat) (Z : Nat → Nat → Int32) (d : Int32) (v : Nat) : ∀ n, ctN (bt (lak N Z v d n)) 10 ≤ lvN N Z d v n
  | 0 => by
    rw [lvN, lak]
    exact Nat.le_of_eq (by decide +kernel)
  | n + 1 => by
    have ih := lak_lv N Z d v n
    rw [lak, lvN]
    split
    · have := ctN_or (p := bt (lak N Z v d n)) (q := bt (unU N Z n d)) (r := bt (lak N Z v d n ||| unU N Z n d)) (fun i => b_or _ _ i) 10
      unfold lcN; omega
    · omega
def svN (N : Nat → Nat) (Z : Nat → Nat → Int32) (d : Int32) (n : Nat) : Nat → Nat
  | 0 => 0
  | v + 1 => svN N Z d n v + lvN N Z d v n
theorem svN_0 (N : Nat → Nat) (Z : Nat → Nat → Int32) (d : Int32) : ∀ m, svN N Z d 0 m = 0
  | 0 => rfl
  | m + 1 => by rw [svN, svN_0 N Z d m, lvN]
theorem svN_s (N : Nat → Nat) (Z : Nat → Nat → Int32) (d : Int32) (n : Nat) : ∀ m, svN N Z d (n + 1) m = svN N Z d n m + (if onN Z n d < m then lcN N Z d n else 0)
  | 0 => by rw [svN, svN, if_neg (Nat.not_lt_zero _)]
  | m + 1 => by
    rw [svN, svN, svN_s N Z d n m, lvN]
    by_cases c : onN Z n d = m
    · rw [if_pos c, if_neg (by omega), if_pos (by omega)]; omega
    · rw [if_neg c]
      by_cases c2 : onN Z n d < m
      · rw [if_pos c2, if_pos (by omega)]; omega
      · rw [if_neg c2, if_neg (by omega)]; omega
theorem svN_le (N : Nat → Nat) (Z : Nat → Nat → Int32) (d : Int32) (m : Nat) : ∀ n, svN N Z d n m ≤ unN N Z d n
  | 0 => by rw [svN_0]; exact Nat.zero_le _
  | n + 1 => by
    have := svN_le N Z d m n
    rw [svN_s, unN]
    split <;> omega
def prN (N : Nat → Nat) (Z : Nat → Nat → Int32) (d : Int32) : Nat → Nat
  | 0 => 0
  | v + 1 => if aliv Z v d = true then prN N Z d v + ctN (bt (lak N Z v d (N 2))) 10 else prN N Z d v
theorem prs_N {N : Nat → Nat} {Z : Nat → Nat → Int32} (hw : wf N Z) (d : Int32) : ∀ v, prs N Z d v = nI (prN N Z d v)
  | 0 => rfl
  | v + 1 => by
    rw [prs, prN, prs_N hw d v]
    split
    · rw [bc_ct hw.1.2.1 (fun i hi => lak_big hw v d hi (N 2) (Nat.le_refl _)), nI_add]
    · rfl
theorem prN_le (N : Nat → Nat) (Z : Nat → Nat → Int32) (d : Int32) : ∀ m, prN N Z d m ≤ svN N Z d (N 2) m
  | 0 => Nat.le_refl _
  | m + 1 => by
    have := prN_le N Z d m
    have := lak_lv N Z d m (N 2)
    rw [prN, svN]
    split <;> omega
theorem prs_le {N : Nat → Nat} {Z : Nat → Nat → Int32} (hw : wf N Z) (d : Int32) : prs N Z d (N 0) ≤ unC N Z d (N 2) := by
  have hb := hw.1
  have h1 := Nat.le_trans (prN_le N Z d (N 0)) (svN_le N Z d (N 0) (N 2))
  have h2 := unN_le N Z d (N 2)
  rw [prs_N hw, unC_N hw d _ (Nat.le_refl _), nI_leI (by omega) (by omega)]
  exact h1
theorem unN_0 {N : Nat → Nat} {Z : Nat → Nat → Int32} (hw : wf N Z) (d : Int32) : ∀ n, n ≤ N 2 → unN N Z d n = 0 → stU N Z d n = 0
  | 0, _, _ => rfl
  | n + 1, hn, h => by
    have hb := hw.1
    rw [unN] at h
    have h1 : unU N Z n d = 0 := b_ext fun i hi => by
      rw [b_0]
      rcases Nat.lt_or_ge i 10 with g | g
      · exact ctN_0 10 (show ctN (bt (unU N Z n d)) 10 = 0 by unfold lcN at h; omega) i g
      · exact unU_big hw (by omega) d (by omega)
    rw [stU, if_pos h1]
    exact unN_0 hw d n (by omega) (by omega)
theorem st_0 {N : Nat → Nat} {Z : Nat → Nat → Int32} (hw : wf N Z) (d : Int32) (h : ¬ 0 < unC N Z d (N 2)) : stU N Z d (N 2) = 0 := by
  have hb := hw.1
  have h2 := unN_le N Z d (N 2)
  refine unN_0 hw d _ (Nat.le_refl _) ?_
  rw [unC_N hw d _ (Nat.le_refl _), show (0 : Int32) = nI 0 from rfl, nI_ltI (by decide) (by omega)] at h
  omega
/-- the bit of a user among those who are stranded -/
theorem stU_bt (N : Nat → Nat) (Z : Nat → Nat → Int32) (d : Int32) : ∀ n, n ≤ 32 → ∀ i, i < 32 → bt (stU N Z d n) i = (decide (i < n) && decide (¬ unU N Z i d = 0))
  | 0, _, i, _ => by rw [stU, b_0, decide_eq_false (Nat.not_lt_zero i), Bool.false_and]
  | n + 1, hn, i, hi => by
    have ih := stU_bt N Z d n (by omega) i hi
    rw [stU]
    by_cases h : i = n
    · subst h
      rw [decide_eq_true (show i < i + 1 by omega), Bool.true_and]
      split
      · rename_i q; rw [ih, decide_eq_false (Nat.lt_irrefl i), Bool.false_and, decide_eq_false (not_not_intro q)]
      · rename_i q; rw [b_or, b_bit (by omega) hi, decide_eq_true rfl, Bool.or_true, decide_eq_true q]
    · have e : decide (i < n + 1) = decide (i < n) := decide_eq_decide.mpr (by omega)
      rw [e]
      split
      · exact ih
      · rw [b_or, b_bit (by omega) hi, ih, decide_eq_false h, Bool.or_false]
theorem and_bt {x : Int32} {k : Nat} (hk : k < 32) : x >>> (nI k &&& 31) &&& 1 = bI (bt x k) := by
  have h0 : bt (x >>> (nI k &&& 31)) 0 = bt x k := by rw [b_sshr k hk x (by omega), if_pos (by omega)]; rfl
  rcases and1 (x >>> (nI k &&& 31)) with ⟨h1, h2⟩ | ⟨h1, h2⟩
  · rw [h1, ← h0, h2]; rfl
  · rw [h1, ← h0, h2]; rfl
theorem and_cn {x : Int32} {k : Nat} (hk : k < 32) : x >>> (nI k &&& 31) &&& 1 = bI (cnt1 x (nI k)) := by rw [and_bt hk, cnt_bt x hk]
theorem st_u {N : Nat → Nat} {Z : Nat → Nat → Int32} (hw : wf N Z) {u : Nat} (hu : u < N 2) (d : Int32) : stU N Z d (N 2) >>> (nI u &&& 31) &&& 1 = if unU N Z u d = 0 then 0 else 1 := by
  have hb := hw.1
  rw [and_bt (by omega), stU_bt N Z d (N 2) (by omega) u (by omega), decide_eq_true hu, Bool.true_and]
  by_cases q : unU N Z u d = 0
  · rw [if_pos q, decide_eq_false (not_not_intro q)]; rfl
  · rw [if_neg q, decide_eq_true q]; rfl
