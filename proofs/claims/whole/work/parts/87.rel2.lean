/-! the writers keep what holds, and the reference goes with them: 2 -/
theorem rel_sl {N : Nat → Nat} {Z : Nat → Nat → Int32} {m : Nat → Int32} (hw : wf N Z) (hr : rel N Z m) {u : Nat} (t : Int32) (hu : u < N 2) : rel N (uSl Z u t) (mSl m u t) := by
  obtain ⟨⟨hb0, hb1, hb2, hb3⟩, -⟩ := id hw
  obtain ⟨hr0, hr1, hr2, hr3, hrv, hrf, hru, hrs⟩ := hr
  refine ⟨?_, ?_, ?_, ?_, ?_, ?_, ?_, ?_⟩
  · show (mSl m u t) 0 = nI (N 0)
    unfold mSl upd
    repeat' split
    all_goals first | rfl | (rw [hru u hu 3 (by omega)]; done) | (rw [hru u hu 4 (by omega)]; done) | (rw [hru u hu 5 (by omega)]; done) | (exfalso; omega) | exact hr0
  · show (mSl m u t) 1 = nI (N 1)
    unfold mSl upd
    repeat' split
    all_goals first | rfl | (rw [hru u hu 3 (by omega)]; done) | (rw [hru u hu 4 (by omega)]; done) | (rw [hru u hu 5 (by omega)]; done) | (exfalso; omega) | exact hr1
  · show (mSl m u t) 2 = nI (N 2)
    unfold mSl upd
    repeat' split
    all_goals first | rfl | (rw [hru u hu 3 (by omega)]; done) | (rw [hru u hu 4 (by omega)]; done) | (rw [hru u hu 5 (by omega)]; done) | (exfalso; omega) | exact hr2
  · show (mSl m u t) 3 = nI (N 3)
    unfold mSl upd
    repeat' split
    all_goals first | rfl | (rw [hru u hu 3 (by omega)]; done) | (rw [hru u hu 4 (by omega)]; done) | (rw [hru u hu 5 (by omega)]; done) | (exfalso; omega) | exact hr3
  · intro k hk
    replace hk : k < N 0 := hk
    have hold := fun (q : k < N 0) => hrv k q
    refine ⟨?_, ?_, ?_⟩
    · show (mSl m u t) (4 + 3 * k) = (Z 1 k)
      unfold mSl upd
      repeat' split
      all_goals first | rfl | (rw [hru u hu 3 (by omega)]; done) | (rw [hru u hu 4 (by omega)]; done) | (rw [hru u hu 5 (by omega)]; done) | (exfalso; omega) | exact (hold (by omega)).1 | (rename_i e9; rw [e9]; exact (hold (by omega)).1) | (simp only [*]; done)
    · show (mSl m u t) (5 + 3 * k) = (Z 2 k)
      unfold mSl upd
      repeat' split
      all_goals first | rfl | (rw [hru u hu 3 (by omega)]; done) | (rw [hru u hu 4 (by omega)]; done) | (rw [hru u hu 5 (by omega)]; done) | (exfalso; omega) | exact (hold (by omega)).2.1 | (rename_i e9; rw [e9]; exact (hold (by omega)).2.1) | (simp only [*]; done)
    · show (mSl m u t) (6 + 3 * k) = (Z 3 k)
      unfold mSl upd
      repeat' split
      all_goals first | rfl | (rw [hru u hu 3 (by omega)]; done) | (rw [hru u hu 4 (by omega)]; done) | (rw [hru u hu 5 (by omega)]; done) | (exfalso; omega) | exact (hold (by omega)).2.2 | (rename_i e9; rw [e9]; exact (hold (by omega)).2.2) | (simp only [*]; done)
  · intro k hk
    replace hk : k < N 1 := hk
    show (mSl m u t) (28 + k) = allW (uSl Z u t) (nI k) (N 0)
    rw [allW_cg (Z := Z) (Z2 := (uSl Z u t)) (nI k) (N 0) (fun v _ => rfl), ← hrf k hk]
    unfold mSl upd
    repeat' split
    all_goals first | rfl | (rw [hru u hu 3 (by omega)]; done) | (rw [hru u hu 4 (by omega)]; done) | (rw [hru u hu 5 (by omega)]; done) | (exfalso; omega)
  · intro k hk j hj
    replace hk : k < N 2 := hk
    have hold := fun (q : k < N 2) => hru k q
    rcases (show j = 0 ∨ j = 1 ∨ j = 2 ∨ j = 3 ∨ j = 4 ∨ j = 5 by omega) with rfl | rfl | rfl | rfl | rfl | rfl
    · show (mSl m u t) (38 + 6 * k + 0) = (Z 5 k)
      unfold mSl upd
      repeat' split
      all_goals first | rfl | (rw [hru u hu 3 (by omega)]; done) | (rw [hru u hu 4 (by omega)]; done) | (rw [hru u hu 5 (by omega)]; done) | (exfalso; omega) | exact hold (by omega) 0 (by omega)
    · show (mSl m u t) (38 + 6 * k + 1) = (Z 6 k)
      unfold mSl upd
      repeat' split
      all_goals first | rfl | (rw [hru u hu 3 (by omega)]; done) | (rw [hru u hu 4 (by omega)]; done) | (rw [hru u hu 5 (by omega)]; done) | (exfalso; omega) | exact hold (by omega) 1 (by omega)
    · show (mSl m u t) (38 + 6 * k + 2) = (Z 7 k)
      unfold mSl upd
      repeat' split
      all_goals first | rfl | (rw [hru u hu 3 (by omega)]; done) | (rw [hru u hu 4 (by omega)]; done) | (rw [hru u hu 5 (by omega)]; done) | (exfalso; omega) | exact hold (by omega) 2 (by omega)
    · show (mSl m u t) (38 + 6 * k + 3) = (if k = u then Z 8 u + t else Z 8 k)
      unfold mSl upd
      repeat' split
      all_goals first | rfl | (rw [hru u hu 3 (by omega)]; done) | (rw [hru u hu 4 (by omega)]; done) | (rw [hru u hu 5 (by omega)]; done) | (exfalso; omega) | exact hold (by omega) 3 (by omega)
    · show (mSl m u t) (38 + 6 * k + 4) = (if k = u then Z 9 u + 1 else Z 9 k)
      unfold mSl upd
      repeat' split
      all_goals first | rfl | (rw [hru u hu 3 (by omega)]; done) | (rw [hru u hu 4 (by omega)]; done) | (rw [hru u hu 5 (by omega)]; done) | (exfalso; omega) | exact hold (by omega) 4 (by omega)
    · show (mSl m u t) (38 + 6 * k + 5) = (if k = u then Z 10 u + t else Z 10 k)
      unfold mSl upd
      repeat' split
      all_goals first | rfl | (rw [hru u hu 3 (by omega)]; done) | (rw [hru u hu 4 (by omega)]; done) | (rw [hru u hu 5 (by omega)]; done) | (exfalso; omega) | exact hold (by omega) 5 (by omega)
  · intro k hk j hj
    replace hk : k < N 3 := hk
    have hold := fun (q : k < N 3) => hrs k q
    rcases (show j = 0 ∨ j = 1 ∨ j = 2 ∨ j = 3 ∨ j = 4 by omega) with rfl | rfl | rfl | rfl | rfl
    · show (mSl m u t) (98 + 5 * k + 0) = (Z 11 k)
      unfold mSl upd
      repeat' split
      all_goals first | rfl | (rw [hru u hu 3 (by omega)]; done) | (rw [hru u hu 4 (by omega)]; done) | (rw [hru u hu 5 (by omega)]; done) | (exfalso; omega) | exact hold (by omega) 0 (by omega)
    · show (mSl m u t) (98 + 5 * k + 1) = (Z 12 k)
      unfold mSl upd
      repeat' split
      all_goals first | rfl | (rw [hru u hu 3 (by omega)]; done) | (rw [hru u hu 4 (by omega)]; done) | (rw [hru u hu 5 (by omega)]; done) | (exfalso; omega) | exact hold (by omega) 1 (by omega)
    · show (mSl m u t) (98 + 5 * k + 2) = (Z 13 k)
      unfold mSl upd
      repeat' split
      all_goals first | rfl | (rw [hru u hu 3 (by omega)]; done) | (rw [hru u hu 4 (by omega)]; done) | (rw [hru u hu 5 (by omega)]; done) | (exfalso; omega) | exact hold (by omega) 2 (by omega)
    · show (mSl m u t) (98 + 5 * k + 3) = (Z 14 k)
      unfold mSl upd
      repeat' split
      all_goals first | rfl | (rw [hru u hu 3 (by omega)]; done) | (rw [hru u hu 4 (by omega)]; done) | (rw [hru u hu 5 (by omega)]; done) | (exfalso; omega) | exact hold (by omega) 3 (by omega)
    · show (mSl m u t) (98 + 5 * k + 4) = (Z 15 k)
      unfold mSl upd
      repeat' split
      all_goals first | rfl | (rw [hru u hu 3 (by omega)]; done) | (rw [hru u hu 4 (by omega)]; done) | (rw [hru u hu 5 (by omega)]; done) | (exfalso; omega) | exact hold (by omega) 4 (by omega)
theorem rel_ex {N : Nat → Nat} {Z : Nat → Nat → Int32} {m : Nat → Int32} (hw : wf N Z) (hr : rel N Z m) {v : Nat} (t : Int32) (hv : v < N 0) : rel N (vExt Z v t) (mEx m v t) := by
  obtain ⟨⟨hb0, hb1, hb2, hb3⟩, -⟩ := id hw
  obtain ⟨hr0, hr1, hr2, hr3, hrv, hrf, hru, hrs⟩ := hr
  refine ⟨?_, ?_, ?_, ?_, ?_, ?_, ?_, ?_⟩
  · show (mEx m v t) 0 = nI (N 0)
    unfold mEx upd
    repeat' split
    all_goals first | rfl | (rw [show 4 + 3 * v + 1 = 5 + 3 * v by omega, (hrv v hv).2.1]; done) | (rw [show 4 + 3 * v + 2 = 6 + 3 * v by omega, (hrv v hv).2.2]; done) | (exfalso; omega) | exact hr0
  · show (mEx m v t) 1 = nI (N 1)
    unfold mEx upd
    repeat' split
    all_goals first | rfl | (rw [show 4 + 3 * v + 1 = 5 + 3 * v by omega, (hrv v hv).2.1]; done) | (rw [show 4 + 3 * v + 2 = 6 + 3 * v by omega, (hrv v hv).2.2]; done) | (exfalso; omega) | exact hr1
  · show (mEx m v t) 2 = nI (N 2)
    unfold mEx upd
    repeat' split
    all_goals first | rfl | (rw [show 4 + 3 * v + 1 = 5 + 3 * v by omega, (hrv v hv).2.1]; done) | (rw [show 4 + 3 * v + 2 = 6 + 3 * v by omega, (hrv v hv).2.2]; done) | (exfalso; omega) | exact hr2
  · show (mEx m v t) 3 = nI (N 3)
    unfold mEx upd
    repeat' split
    all_goals first | rfl | (rw [show 4 + 3 * v + 1 = 5 + 3 * v by omega, (hrv v hv).2.1]; done) | (rw [show 4 + 3 * v + 2 = 6 + 3 * v by omega, (hrv v hv).2.2]; done) | (exfalso; omega) | exact hr3
  · intro k hk
    replace hk : k < N 0 := hk
    have hold := fun (q : k < N 0) => hrv k q
    refine ⟨?_, ?_, ?_⟩
    · show (mEx m v t) (4 + 3 * k) = (Z 1 k)
      unfold mEx upd
      repeat' split
      all_goals first | rfl | (rw [show 4 + 3 * v + 1 = 5 + 3 * v by omega, (hrv v hv).2.1]; done) | (rw [show 4 + 3 * v + 2 = 6 + 3 * v by omega, (hrv v hv).2.2]; done) | (exfalso; omega) | exact (hold (by omega)).1 | (rename_i e9; rw [e9]; exact (hold (by omega)).1) | (simp only [*]; done)
    · show (mEx m v t) (5 + 3 * k) = (if k = v then Z 2 v + t else Z 2 k)
      unfold mEx upd
      repeat' split
      all_goals first | rfl | (rw [show 4 + 3 * v + 1 = 5 + 3 * v by omega, (hrv v hv).2.1]; done) | (rw [show 4 + 3 * v + 2 = 6 + 3 * v by omega, (hrv v hv).2.2]; done) | (exfalso; omega) | exact (hold (by omega)).2.1 | (rename_i e9; rw [e9]; exact (hold (by omega)).2.1) | (simp only [*]; done)
    · show (mEx m v t) (6 + 3 * k) = (if k = v then Z 3 v + t else Z 3 k)
      unfold mEx upd
      repeat' split
      all_goals first | rfl | (rw [show 4 + 3 * v + 1 = 5 + 3 * v by omega, (hrv v hv).2.1]; done) | (rw [show 4 + 3 * v + 2 = 6 + 3 * v by omega, (hrv v hv).2.2]; done) | (exfalso; omega) | exact (hold (by omega)).2.2 | (rename_i e9; rw [e9]; exact (hold (by omega)).2.2) | (simp only [*]; done)
  · intro k hk
    replace hk : k < N 1 := hk
    show (mEx m v t) (28 + k) = allW (vExt Z v t) (nI k) (N 0)
    rw [allW_cg (Z := Z) (Z2 := (vExt Z v t)) (nI k) (N 0) (fun v _ => rfl), ← hrf k hk]
    unfold mEx upd
    repeat' split
    all_goals first | rfl | (rw [show 4 + 3 * v + 1 = 5 + 3 * v by omega, (hrv v hv).2.1]; done) | (rw [show 4 + 3 * v + 2 = 6 + 3 * v by omega, (hrv v hv).2.2]; done) | (exfalso; omega)
  · intro k hk j hj
    replace hk : k < N 2 := hk
    have hold := fun (q : k < N 2) => hru k q
    rcases (show j = 0 ∨ j = 1 ∨ j = 2 ∨ j = 3 ∨ j = 4 ∨ j = 5 by omega) with rfl | rfl | rfl | rfl | rfl | rfl
    · show (mEx m v t) (38 + 6 * k + 0) = (Z 5 k)
      unfold mEx upd
      repeat' split
      all_goals first | rfl | (rw [show 4 + 3 * v + 1 = 5 + 3 * v by omega, (hrv v hv).2.1]; done) | (rw [show 4 + 3 * v + 2 = 6 + 3 * v by omega, (hrv v hv).2.2]; done) | (exfalso; omega) | exact hold (by omega) 0 (by omega)
    · show (mEx m v t) (38 + 6 * k + 1) = (Z 6 k)
      unfold mEx upd
      repeat' split
      all_goals first | rfl | (rw [show 4 + 3 * v + 1 = 5 + 3 * v by omega, (hrv v hv).2.1]; done) | (rw [show 4 + 3 * v + 2 = 6 + 3 * v by omega, (hrv v hv).2.2]; done) | (exfalso; omega) | exact hold (by omega) 1 (by omega)
    · show (mEx m v t) (38 + 6 * k + 2) = (Z 7 k)
      unfold mEx upd
      repeat' split
      all_goals first | rfl | (rw [show 4 + 3 * v + 1 = 5 + 3 * v by omega, (hrv v hv).2.1]; done) | (rw [show 4 + 3 * v + 2 = 6 + 3 * v by omega, (hrv v hv).2.2]; done) | (exfalso; omega) | exact hold (by omega) 2 (by omega)
    · show (mEx m v t) (38 + 6 * k + 3) = (Z 8 k)
      unfold mEx upd
      repeat' split
      all_goals first | rfl | (rw [show 4 + 3 * v + 1 = 5 + 3 * v by omega, (hrv v hv).2.1]; done) | (rw [show 4 + 3 * v + 2 = 6 + 3 * v by omega, (hrv v hv).2.2]; done) | (exfalso; omega) | exact hold (by omega) 3 (by omega)
    · show (mEx m v t) (38 + 6 * k + 4) = (Z 9 k)
      unfold mEx upd
      repeat' split
      all_goals first | rfl | (rw [show 4 + 3 * v + 1 = 5 + 3 * v by omega, (hrv v hv).2.1]; done) | (rw [show 4 + 3 * v + 2 = 6 + 3 * v by omega, (hrv v hv).2.2]; done) | (exfalso; omega) | exact hold (by omega) 4 (by omega)
    · show (mEx m v t) (38 + 6 * k + 5) = (Z 10 k)
      unfold mEx upd
      repeat' split
      all_goals first | rfl | (rw [show 4 + 3 * v + 1 = 5 + 3 * v by omega, (hrv v hv).2.1]; done) | (rw [show 4 + 3 * v + 2 = 6 + 3 * v by omega, (hrv v hv).2.2]; done) | (exfalso; omega) | exact hold (by omega) 5 (by omega)
  · intro k hk j hj
    replace hk : k < N 3 := hk
    have hold := fun (q : k < N 3) => hrs k q
    rcases (show j = 0 ∨ j = 1 ∨ j = 2 ∨ j = 3 ∨ j = 4 by omega) with rfl | rfl | rfl | rfl | rfl
    · show (mEx m v t) (98 + 5 * k + 0) = (Z 11 k)
      unfold mEx upd
      repeat' split
      all_goals first | rfl | (rw [show 4 + 3 * v + 1 = 5 + 3 * v by omega, (hrv v hv).2.1]; done) | (rw [show 4 + 3 * v + 2 = 6 + 3 * v by omega, (hrv v hv).2.2]; done) | (exfalso; omega) | exact hold (by omega) 0 (by omega)
    · show (mEx m v t) (98 + 5 * k + 1) = (Z 12 k)
      unfold mEx upd
      repeat' split
      all_goals first | rfl | (rw [show 4 + 3 * v + 1 = 5 + 3 * v by omega, (hrv v hv).2.1]; done) | (rw [show 4 + 3 * v + 2 = 6 + 3 * v by omega, (hrv v hv).2.2]; done) | (exfalso; omega) | exact hold (by omega) 1 (by omega)
    · show (mEx m v t) (98 + 5 * k + 2) = (Z 13 k)
      unfold mEx upd
      repeat' split
      all_goals first | rfl | (rw [show 4 + 3 * v + 1 = 5 + 3 * v by omega, (hrv v hv).2.1]; done) | (rw [show 4 + 3 * v + 2 = 6 + 3 * v by omega, (hrv v hv).2.2]; done) | (exfalso; omega) | exact hold (by omega) 2 (by omega)
    · show (mEx m v t) (98 + 5 * k + 3) = (Z 14 k)
      unfold mEx upd
      repeat' split
      all_goals first | rfl | (rw [show 4 + 3 * v + 1 = 5 + 3 * v by omega, (hrv v hv).2.1]; done) | (rw [show 4 + 3 * v + 2 = 6 + 3 * v by omega, (hrv v hv).2.2]; done) | (exfalso; omega) | exact hold (by omega) 3 (by omega)
    · show (mEx m v t) (98 + 5 * k + 4) = (Z 15 k)
      unfold mEx upd
      repeat' split
      all_goals first | rfl | (rw [show 4 + 3 * v + 1 = 5 + 3 * v by omega, (hrv v hv).2.1]; done) | (rw [show 4 + 3 * v + 2 = 6 + 3 * v by omega, (hrv v hv).2.2]; done) | (exfalso; omega) | exact hold (by omega) 4 (by omega)
theorem rel_dr {N : Nat → Nat} {Z : Nat → Nat → Int32} {m : Nat → Int32} (hw : wf N Z) (hr : rel N Z m) {t : Nat} (ht : t < N 3) : rel (va_up N 3 (N 3 - 1)) (sDel Z t (N 3 - 1)) (mDr m (N 3) t) := by
  obtain ⟨⟨hb0, hb1, hb2, hb3⟩, -⟩ := id hw
  obtain ⟨hr0, hr1, hr2, hr3, hrv, hrf, hru, hrs⟩ := hr
  refine ⟨?_, ?_, ?_, ?_, ?_, ?_, ?_, ?_⟩
  · show (mDr m (N 3) t) 0 = nI (N 0)
    unfold mDr upd dsf
    repeat' split
    all_goals first | rfl | (exfalso; omega) | exact hr0
  · show (mDr m (N 3) t) 1 = nI (N 1)
    unfold mDr upd dsf
    repeat' split
    all_goals first | rfl | (exfalso; omega) | exact hr1
  · show (mDr m (N 3) t) 2 = nI (N 2)
    unfold mDr upd dsf
    repeat' split
    all_goals first | rfl | (exfalso; omega) | exact hr2
  · show (mDr m (N 3) t) 3 = nI (N 3 - 1)
    unfold mDr upd dsf
    repeat' split
    all_goals first | rfl | (exfalso; omega) | exact hr3
  · intro k hk
    replace hk : k < N 0 := hk
    have hold := fun (q : k < N 0) => hrv k q
    refine ⟨?_, ?_, ?_⟩
    · show (mDr m (N 3) t) (4 + 3 * k) = (Z 1 k)
      unfold mDr upd dsf
      repeat' split
      all_goals first | rfl | (exfalso; omega) | exact (hold (by omega)).1 | (rename_i e9; rw [e9]; exact (hold (by omega)).1) | (simp only [*]; done)
    · show (mDr m (N 3) t) (5 + 3 * k) = (Z 2 k)
      unfold mDr upd dsf
      repeat' split
      all_goals first | rfl | (exfalso; omega) | exact (hold (by omega)).2.1 | (rename_i e9; rw [e9]; exact (hold (by omega)).2.1) | (simp only [*]; done)
    · show (mDr m (N 3) t) (6 + 3 * k) = (Z 3 k)
      unfold mDr upd dsf
      repeat' split
      all_goals first | rfl | (exfalso; omega) | exact (hold (by omega)).2.2 | (rename_i e9; rw [e9]; exact (hold (by omega)).2.2) | (simp only [*]; done)
  · intro k hk
    replace hk : k < N 1 := hk
    show (mDr m (N 3) t) (28 + k) = allW (sDel Z t (N 3 - 1)) (nI k) (N 0)
    rw [allW_cg (Z := Z) (Z2 := (sDel Z t (N 3 - 1))) (nI k) (N 0) (fun v _ => rfl), ← hrf k hk]
    unfold mDr upd dsf
    repeat' split
    all_goals first | rfl | (exfalso; omega)
  · intro k hk j hj
    replace hk : k < N 2 := hk
    have hold := fun (q : k < N 2) => hru k q
    rcases (show j = 0 ∨ j = 1 ∨ j = 2 ∨ j = 3 ∨ j = 4 ∨ j = 5 by omega) with rfl | rfl | rfl | rfl | rfl | rfl
    · show (mDr m (N 3) t) (38 + 6 * k + 0) = (Z 5 k)
      unfold mDr upd dsf
      repeat' split
      all_goals first | rfl | (exfalso; omega) | exact hold (by omega) 0 (by omega) | (rw [show 98 + 5 * k + 0 + 5 = 98 + 5 * (k + 1) + 0 by omega]; exact hrs (k + 1) (by omega) 0 (by omega))
    · show (mDr m (N 3) t) (38 + 6 * k + 1) = (Z 6 k)
      unfold mDr upd dsf
      repeat' split
      all_goals first | rfl | (exfalso; omega) | exact hold (by omega) 1 (by omega) | (rw [show 98 + 5 * k + 1 + 5 = 98 + 5 * (k + 1) + 1 by omega]; exact hrs (k + 1) (by omega) 1 (by omega))
    · show (mDr m (N 3) t) (38 + 6 * k + 2) = (Z 7 k)
      unfold mDr upd dsf
      repeat' split
      all_goals first | rfl | (exfalso; omega) | exact hold (by omega) 2 (by omega) | (rw [show 98 + 5 * k + 2 + 5 = 98 + 5 * (k + 1) + 2 by omega]; exact hrs (k + 1) (by omega) 2 (by omega))
    · show (mDr m (N 3) t) (38 + 6 * k + 3) = (Z 8 k)
      unfold mDr upd dsf
      repeat' split
      all_goals first | rfl | (exfalso; omega) | exact hold (by omega) 3 (by omega) | (rw [show 98 + 5 * k + 3 + 5 = 98 + 5 * (k + 1) + 3 by omega]; exact hrs (k + 1) (by omega) 3 (by omega))
    · show (mDr m (N 3) t) (38 + 6 * k + 4) = (Z 9 k)
      unfold mDr upd dsf
      repeat' split
      all_goals first | rfl | (exfalso; omega) | exact hold (by omega) 4 (by omega) | (rw [show 98 + 5 * k + 4 + 5 = 98 + 5 * (k + 1) + 4 by omega]; exact hrs (k + 1) (by omega) 4 (by omega))
    · show (mDr m (N 3) t) (38 + 6 * k + 5) = (Z 10 k)
      unfold mDr upd dsf
      repeat' split
      all_goals first | rfl | (exfalso; omega) | exact hold (by omega) 5 (by omega) | (rw [show 98 + 5 * k + 5 + 5 = 98 + 5 * (k + 1) + 5 by omega]; exact hrs (k + 1) (by omega) 5 (by omega))
  · intro k hk j hj
    replace hk : k < N 3 - 1 := hk
    have hold := fun (q : k < N 3) => hrs k q
    rcases (show j = 0 ∨ j = 1 ∨ j = 2 ∨ j = 3 ∨ j = 4 by omega) with rfl | rfl | rfl | rfl | rfl
    · show (mDr m (N 3) t) (98 + 5 * k + 0) = (if t ≤ k ∧ k < N 3 - 1 then Z 11 (k + 1) else Z 11 k)
      unfold mDr upd dsf
      repeat' split
      all_goals first | rfl | (exfalso; omega) | exact hold (by omega) 0 (by omega) | (rw [show 98 + 5 * k + 0 + 5 = 98 + 5 * (k + 1) + 0 by omega]; exact hrs (k + 1) (by omega) 0 (by omega))
    · show (mDr m (N 3) t) (98 + 5 * k + 1) = (if t ≤ k ∧ k < N 3 - 1 then Z 12 (k + 1) else Z 12 k)
      unfold mDr upd dsf
      repeat' split
      all_goals first | rfl | (exfalso; omega) | exact hold (by omega) 1 (by omega) | (rw [show 98 + 5 * k + 1 + 5 = 98 + 5 * (k + 1) + 1 by omega]; exact hrs (k + 1) (by omega) 1 (by omega))
    · show (mDr m (N 3) t) (98 + 5 * k + 2) = (if t ≤ k ∧ k < N 3 - 1 then Z 13 (k + 1) else Z 13 k)
      unfold mDr upd dsf
      repeat' split
      all_goals first | rfl | (exfalso; omega) | exact hold (by omega) 2 (by omega) | (rw [show 98 + 5 * k + 2 + 5 = 98 + 5 * (k + 1) + 2 by omega]; exact hrs (k + 1) (by omega) 2 (by omega))
    · show (mDr m (N 3) t) (98 + 5 * k + 3) = (if t ≤ k ∧ k < N 3 - 1 then Z 14 (k + 1) else Z 14 k)
      unfold mDr upd dsf
      repeat' split
      all_goals first | rfl | (exfalso; omega) | exact hold (by omega) 3 (by omega) | (rw [show 98 + 5 * k + 3 + 5 = 98 + 5 * (k + 1) + 3 by omega]; exact hrs (k + 1) (by omega) 3 (by omega))
    · show (mDr m (N 3) t) (98 + 5 * k + 4) = (if t ≤ k ∧ k < N 3 - 1 then Z 15 (k + 1) else Z 15 k)
      unfold mDr upd dsf
      repeat' split
      all_goals first | rfl | (exfalso; omega) | exact hold (by omega) 4 (by omega) | (rw [show 98 + 5 * k + 4 + 5 = 98 + 5 * (k + 1) + 4 by omega]; exact hrs (k + 1) (by omega) 4 (by omega))
