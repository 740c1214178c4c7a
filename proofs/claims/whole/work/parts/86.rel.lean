/-! the writers keep what holds, and the reference goes with them -/
theorem allW_cg {Z Z2 : Nat → Nat → Int32} (f : Int32) : ∀ n, (∀ v, v < n → Z2 4 v = Z 4 v) → allW Z2 f n = allW Z f n
  | 0, _ => rfl
  | n + 1, h => by rw [allW, allW, h n (by omega), allW_cg f n (fun v hv => h v (by omega))]
theorem rel_pl {N : Nat → Nat} {Z : Nat → Nat → Int32} {m : Nat → Int32} (hw : wf N Z) (hr : rel N Z m) {u : Nat} (v d : Int32) (hu : u < N 2) : rel N (uPl Z u v d) (mPl m u v d) := by
  obtain ⟨⟨hb0, hb1, hb2, hb3⟩, -⟩ := id hw
  obtain ⟨hr0, hr1, hr2, hr3, hrv, hrf, hru, hrs⟩ := hr
  refine ⟨?_, ?_, ?_, ?_, ?_, ?_, ?_, ?_⟩
  · show (mPl m u v d) 0 = nI (N 0)
    unfold mPl upd
    repeat' split
    all_goals first | rfl | (exfalso; omega) | exact hr0
  · show (mPl m u v d) 1 = nI (N 1)
    unfold mPl upd
    repeat' split
    all_goals first | rfl | (exfalso; omega) | exact hr1
  · show (mPl m u v d) 2 = nI (N 2)
    unfold mPl upd
    repeat' split
    all_goals first | rfl | (exfalso; omega) | exact hr2
  · show (mPl m u v d) 3 = nI (N 3)
    unfold mPl upd
    repeat' split
    all_goals first | rfl | (exfalso; omega) | exact hr3
  · intro k hk
    replace hk : k < N 0 := hk
    have hold := fun (q : k < N 0) => hrv k q
    refine ⟨?_, ?_, ?_⟩
    · show (mPl m u v d) (4 + 3 * k) = (Z 1 k)
      unfold mPl upd
      repeat' split
      all_goals first | rfl | (exfalso; omega) | exact (hold (by omega)).1 | (rename_i e9; rw [e9]; exact (hold (by omega)).1) | (simp only [*]; done)
    · show (mPl m u v d) (5 + 3 * k) = (Z 2 k)
      unfold mPl upd
      repeat' split
      all_goals first | rfl | (exfalso; omega) | exact (hold (by omega)).2.1 | (rename_i e9; rw [e9]; exact (hold (by omega)).2.1) | (simp only [*]; done)
    · show (mPl m u v d) (6 + 3 * k) = (Z 3 k)
      unfold mPl upd
      repeat' split
      all_goals first | rfl | (exfalso; omega) | exact (hold (by omega)).2.2 | (rename_i e9; rw [e9]; exact (hold (by omega)).2.2) | (simp only [*]; done)
  · intro k hk
    replace hk : k < N 1 := hk
    show (mPl m u v d) (28 + k) = allW (uPl Z u v d) (nI k) (N 0)
    rw [allW_cg (Z := Z) (Z2 := (uPl Z u v d)) (nI k) (N 0) (fun v _ => rfl), ← hrf k hk]
    unfold mPl upd
    repeat' split
    all_goals first | rfl | (exfalso; omega)
  · intro k hk j hj
    replace hk : k < N 2 := hk
    have hold := fun (q : k < N 2) => hru k q
    rcases (show j = 0 ∨ j = 1 ∨ j = 2 ∨ j = 3 ∨ j = 4 ∨ j = 5 by omega) with rfl | rfl | rfl | rfl | rfl | rfl
    · show (mPl m u v d) (38 + 6 * k + 0) = (Z 5 k)
      unfold mPl upd
      repeat' split
      all_goals first | rfl | (exfalso; omega) | exact hold (by omega) 0 (by omega)
    · show (mPl m u v d) (38 + 6 * k + 1) = (Z 6 k)
      unfold mPl upd
      repeat' split
      all_goals first | rfl | (exfalso; omega) | exact hold (by omega) 1 (by omega)
    · show (mPl m u v d) (38 + 6 * k + 2) = (if k = u then v else Z 7 k)
      unfold mPl upd
      repeat' split
      all_goals first | rfl | (exfalso; omega) | exact hold (by omega) 2 (by omega)
    · show (mPl m u v d) (38 + 6 * k + 3) = (if k = u then d else Z 8 k)
      unfold mPl upd
      repeat' split
      all_goals first | rfl | (exfalso; omega) | exact hold (by omega) 3 (by omega)
    · show (mPl m u v d) (38 + 6 * k + 4) = (Z 9 k)
      unfold mPl upd
      repeat' split
      all_goals first | rfl | (exfalso; omega) | exact hold (by omega) 4 (by omega)
    · show (mPl m u v d) (38 + 6 * k + 5) = (Z 10 k)
      unfold mPl upd
      repeat' split
      all_goals first | rfl | (exfalso; omega) | exact hold (by omega) 5 (by omega)
  · intro k hk j hj
    replace hk : k < N 3 := hk
    have hold := fun (q : k < N 3) => hrs k q
    rcases (show j = 0 ∨ j = 1 ∨ j = 2 ∨ j = 3 ∨ j = 4 by omega) with rfl | rfl | rfl | rfl | rfl
    · show (mPl m u v d) (98 + 5 * k + 0) = (Z 11 k)
      unfold mPl upd
      repeat' split
      all_goals first | rfl | (exfalso; omega) | exact hold (by omega) 0 (by omega)
    · show (mPl m u v d) (98 + 5 * k + 1) = (Z 12 k)
      unfold mPl upd
      repeat' split
      all_goals first | rfl | (exfalso; omega) | exact hold (by omega) 1 (by omega)
    · show (mPl m u v d) (98 + 5 * k + 2) = (Z 13 k)
      unfold mPl upd
      repeat' split
      all_goals first | rfl | (exfalso; omega) | exact hold (by omega) 2 (by omega)
    · show (mPl m u v d) (98 + 5 * k + 3) = (Z 14 k)
      unfold mPl upd
      repeat' split
      all_goals first | rfl | (exfalso; omega) | exact hold (by omega) 3 (by omega)
    · show (mPl m u v d) (98 + 5 * k + 4) = (Z 15 k)
      unfold mPl upd
      repeat' split
      all_goals first | rfl | (exfalso; omega) | exact hold (by omega) 4 (by omega)
theorem rel_av {N : Nat → Nat} {Z : Nat → Nat → Int32} {m : Nat → Int32} (hw : wf N Z) (hr : rel N Z m) (x z : Int32) (h8 : N 0 < 8) : rel (va_up N 0 (N 0 + 1)) (vAdd N Z x z) (mAV m (N 0) x z) := by
  obtain ⟨⟨hb0, hb1, hb2, hb3⟩, -⟩ := id hw
  obtain ⟨hr0, hr1, hr2, hr3, hrv, hrf, hru, hrs⟩ := hr
  refine ⟨?_, ?_, ?_, ?_, ?_, ?_, ?_, ?_⟩
  · show (mAV m (N 0) x z) 0 = nI (N 0 + 1)
    unfold mAV upd
    repeat' split
    all_goals first | rfl | (exfalso; omega) | exact hr0
  · show (mAV m (N 0) x z) 1 = nI (N 1)
    unfold mAV upd
    repeat' split
    all_goals first | rfl | (exfalso; omega) | exact hr1
  · show (mAV m (N 0) x z) 2 = nI (N 2)
    unfold mAV upd
    repeat' split
    all_goals first | rfl | (exfalso; omega) | exact hr2
  · show (mAV m (N 0) x z) 3 = nI (N 3)
    unfold mAV upd
    repeat' split
    all_goals first | rfl | (exfalso; omega) | exact hr3
  · intro k hk
    replace hk : k < N 0 + 1 := hk
    have hold := fun (q : k < N 0) => hrv k q
    refine ⟨?_, ?_, ?_⟩
    · show (mAV m (N 0) x z) (4 + 3 * k) = (if k = N 0 then x else Z 1 k)
      unfold mAV upd
      repeat' split
      all_goals first | rfl | (exfalso; omega) | exact (hold (by omega)).1 | (rename_i e9; rw [e9]; exact (hold (by omega)).1) | (simp only [*]; done)
    · show (mAV m (N 0) x z) (5 + 3 * k) = (if k = N 0 then z else Z 2 k)
      unfold mAV upd
      repeat' split
      all_goals first | rfl | (exfalso; omega) | exact (hold (by omega)).2.1 | (rename_i e9; rw [e9]; exact (hold (by omega)).2.1) | (simp only [*]; done)
    · show (mAV m (N 0) x z) (6 + 3 * k) = (if k = N 0 then 0 else Z 3 k)
      unfold mAV upd
      repeat' split
      all_goals first | rfl | (exfalso; omega) | exact (hold (by omega)).2.2 | (rename_i e9; rw [e9]; exact (hold (by omega)).2.2) | (simp only [*]; done)
  · intro k hk
    replace hk : k < N 1 := hk
    show mAV m (N 0) x z (28 + k) = allW (vAdd N Z x z) (nI k) (N 0 + 1)
    rw [allW, show vAdd N Z x z 4 (N 0) = 0 from pk_us, if_neg (by unfold cnt1; simp [Int32.zero_shiftRight]), allW_cg (Z := Z) (Z2 := vAdd N Z x z) (nI k) (N 0) (fun v hv => pk_un (by omega)), ← hrf k hk]
    unfold mAV upd
    repeat' split
    all_goals first | rfl | (exfalso; omega)
  · intro k hk j hj
    replace hk : k < N 2 := hk
    have hold := fun (q : k < N 2) => hru k q
    rcases (show j = 0 ∨ j = 1 ∨ j = 2 ∨ j = 3 ∨ j = 4 ∨ j = 5 by omega) with rfl | rfl | rfl | rfl | rfl | rfl
    · show (mAV m (N 0) x z) (38 + 6 * k + 0) = (Z 5 k)
      unfold mAV upd
      repeat' split
      all_goals first | rfl | (exfalso; omega) | exact hold (by omega) 0 (by omega)
    · show (mAV m (N 0) x z) (38 + 6 * k + 1) = (Z 6 k)
      unfold mAV upd
      repeat' split
      all_goals first | rfl | (exfalso; omega) | exact hold (by omega) 1 (by omega)
    · show (mAV m (N 0) x z) (38 + 6 * k + 2) = (Z 7 k)
      unfold mAV upd
      repeat' split
      all_goals first | rfl | (exfalso; omega) | exact hold (by omega) 2 (by omega)
    · show (mAV m (N 0) x z) (38 + 6 * k + 3) = (Z 8 k)
      unfold mAV upd
      repeat' split
      all_goals first | rfl | (exfalso; omega) | exact hold (by omega) 3 (by omega)
    · show (mAV m (N 0) x z) (38 + 6 * k + 4) = (Z 9 k)
      unfold mAV upd
      repeat' split
      all_goals first | rfl | (exfalso; omega) | exact hold (by omega) 4 (by omega)
    · show (mAV m (N 0) x z) (38 + 6 * k + 5) = (Z 10 k)
      unfold mAV upd
      repeat' split
      all_goals first | rfl | (exfalso; omega) | exact hold (by omega) 5 (by omega)
  · intro k hk j hj
    replace hk : k < N 3 := hk
    have hold := fun (q : k < N 3) => hrs k q
    rcases (show j = 0 ∨ j = 1 ∨ j = 2 ∨ j = 3 ∨ j = 4 by omega) with rfl | rfl | rfl | rfl | rfl
    · show (mAV m (N 0) x z) (98 + 5 * k + 0) = (Z 11 k)
      unfold mAV upd
      repeat' split
      all_goals first | rfl | (exfalso; omega) | exact hold (by omega) 0 (by omega)
    · show (mAV m (N 0) x z) (98 + 5 * k + 1) = (Z 12 k)
      unfold mAV upd
      repeat' split
      all_goals first | rfl | (exfalso; omega) | exact hold (by omega) 1 (by omega)
    · show (mAV m (N 0) x z) (98 + 5 * k + 2) = (Z 13 k)
      unfold mAV upd
      repeat' split
      all_goals first | rfl | (exfalso; omega) | exact hold (by omega) 2 (by omega)
    · show (mAV m (N 0) x z) (98 + 5 * k + 3) = (Z 14 k)
      unfold mAV upd
      repeat' split
      all_goals first | rfl | (exfalso; omega) | exact hold (by omega) 3 (by omega)
    · show (mAV m (N 0) x z) (98 + 5 * k + 4) = (Z 15 k)
      unfold mAV upd
      repeat' split
      all_goals first | rfl | (exfalso; omega) | exact hold (by omega) 4 (by omega)
theorem rel_au {N : Nat → Nat} {Z : Nat → Nat → Int32} {m : Nat → Int32} (hw : wf N Z) (hr : rel N Z m) (v x : Int32) (h8 : N 2 < 10) : rel (va_up N 2 (N 2 + 1)) (uAdd N Z v x) (mAU m (N 2) v x) := by
  obtain ⟨⟨hb0, hb1, hb2, hb3⟩, -⟩ := id hw
  obtain ⟨hr0, hr1, hr2, hr3, hrv, hrf, hru, hrs⟩ := hr
  refine ⟨?_, ?_, ?_, ?_, ?_, ?_, ?_, ?_⟩
  · show (mAU m (N 2) v x) 0 = nI (N 0)
    unfold mAU upd
    repeat' split
    all_goals first | rfl | (exfalso; omega) | exact hr0
  · show (mAU m (N 2) v x) 1 = nI (N 1)
    unfold mAU upd
    repeat' split
    all_goals first | rfl | (exfalso; omega) | exact hr1
  · show (mAU m (N 2) v x) 2 = nI (N 2 + 1)
    unfold mAU upd
    repeat' split
    all_goals first | rfl | (exfalso; omega) | exact hr2
  · show (mAU m (N 2) v x) 3 = nI (N 3)
    unfold mAU upd
    repeat' split
    all_goals first | rfl | (exfalso; omega) | exact hr3
  · intro k hk
    replace hk : k < N 0 := hk
    have hold := fun (q : k < N 0) => hrv k q
    refine ⟨?_, ?_, ?_⟩
    · show (mAU m (N 2) v x) (4 + 3 * k) = (Z 1 k)
      unfold mAU upd
      repeat' split
      all_goals first | rfl | (exfalso; omega) | exact (hold (by omega)).1 | (rename_i e9; rw [e9]; exact (hold (by omega)).1) | (simp only [*]; done)
    · show (mAU m (N 2) v x) (5 + 3 * k) = (Z 2 k)
      unfold mAU upd
      repeat' split
      all_goals first | rfl | (exfalso; omega) | exact (hold (by omega)).2.1 | (rename_i e9; rw [e9]; exact (hold (by omega)).2.1) | (simp only [*]; done)
    · show (mAU m (N 2) v x) (6 + 3 * k) = (Z 3 k)
      unfold mAU upd
      repeat' split
      all_goals first | rfl | (exfalso; omega) | exact (hold (by omega)).2.2 | (rename_i e9; rw [e9]; exact (hold (by omega)).2.2) | (simp only [*]; done)
  · intro k hk
    replace hk : k < N 1 := hk
    show (mAU m (N 2) v x) (28 + k) = allW (uAdd N Z v x) (nI k) (N 0)
    rw [allW_cg (Z := Z) (Z2 := (uAdd N Z v x)) (nI k) (N 0) (fun v _ => rfl), ← hrf k hk]
    unfold mAU upd
    repeat' split
    all_goals first | rfl | (exfalso; omega)
  · intro k hk j hj
    replace hk : k < N 2 + 1 := hk
    have hold := fun (q : k < N 2) => hru k q
    rcases (show j = 0 ∨ j = 1 ∨ j = 2 ∨ j = 3 ∨ j = 4 ∨ j = 5 by omega) with rfl | rfl | rfl | rfl | rfl | rfl
    · show (mAU m (N 2) v x) (38 + 6 * k + 0) = (if k = N 2 then v else Z 5 k)
      unfold mAU upd
      repeat' split
      all_goals first | rfl | (exfalso; omega) | exact hold (by omega) 0 (by omega)
    · show (mAU m (N 2) v x) (38 + 6 * k + 1) = (if k = N 2 then x else Z 6 k)
      unfold mAU upd
      repeat' split
      all_goals first | rfl | (exfalso; omega) | exact hold (by omega) 1 (by omega)
    · show (mAU m (N 2) v x) (38 + 6 * k + 2) = (if k = N 2 then -1 else Z 7 k)
      unfold mAU upd
      repeat' split
      all_goals first | rfl | (exfalso; omega) | exact hold (by omega) 2 (by omega)
    · show (mAU m (N 2) v x) (38 + 6 * k + 3) = (if k = N 2 then -1 else Z 8 k)
      unfold mAU upd
      repeat' split
      all_goals first | rfl | (exfalso; omega) | exact hold (by omega) 3 (by omega)
    · show (mAU m (N 2) v x) (38 + 6 * k + 4) = (if k = N 2 then 0 else Z 9 k)
      unfold mAU upd
      repeat' split
      all_goals first | rfl | (exfalso; omega) | exact hold (by omega) 4 (by omega)
    · show (mAU m (N 2) v x) (38 + 6 * k + 5) = (if k = N 2 then 0 else Z 10 k)
      unfold mAU upd
      repeat' split
      all_goals first | rfl | (exfalso; omega) | exact hold (by omega) 5 (by omega)
  · intro k hk j hj
    replace hk : k < N 3 := hk
    have hold := fun (q : k < N 3) => hrs k q
    rcases (show j = 0 ∨ j = 1 ∨ j = 2 ∨ j = 3 ∨ j = 4 by omega) with rfl | rfl | rfl | rfl | rfl
    · show (mAU m (N 2) v x) (98 + 5 * k + 0) = (Z 11 k)
      unfold mAU upd
      repeat' split
      all_goals first | rfl | (exfalso; omega) | exact hold (by omega) 0 (by omega)
    · show (mAU m (N 2) v x) (98 + 5 * k + 1) = (Z 12 k)
      unfold mAU upd
      repeat' split
      all_goals first | rfl | (exfalso; omega) | exact hold (by omega) 1 (by omega)
    · show (mAU m (N 2) v x) (98 + 5 * k + 2) = (Z 13 k)
      unfold mAU upd
      repeat' split
      all_goals first | rfl | (exfalso; omega) | exact hold (by omega) 2 (by omega)
    · show (mAU m (N 2) v x) (98 + 5 * k + 3) = (Z 14 k)
      unfold mAU upd
      repeat' split
      all_goals first | rfl | (exfalso; omega) | exact hold (by omega) 3 (by omega)
    · show (mAU m (N 2) v x) (98 + 5 * k + 4) = (Z 15 k)
      unfold mAU upd
      repeat' split
      all_goals first | rfl | (exfalso; omega) | exact hold (by omega) 4 (by omega)
theorem rel_sh {N : Nat → Nat} {Z : Nat → Nat → Int32} {m : Nat → Int32} (hw : wf N Z) (hr : rel N Z m) (f v x z y : Int32) (h8 : N 3 < 12) : rel (va_up N 3 (N 3 + 1)) (sAdd N Z f v x z y) (mSh m (N 3) f v x z y) := by
  obtain ⟨⟨hb0, hb1, hb2, hb3⟩, -⟩ := id hw
  obtain ⟨hr0, hr1, hr2, hr3, hrv, hrf, hru, hrs⟩ := hr
  refine ⟨?_, ?_, ?_, ?_, ?_, ?_, ?_, ?_⟩
  · show (mSh m (N 3) f v x z y) 0 = nI (N 0)
    unfold mSh upd
    repeat' split
    all_goals first | rfl | (exfalso; omega) | exact hr0
  · show (mSh m (N 3) f v x z y) 1 = nI (N 1)
    unfold mSh upd
    repeat' split
    all_goals first | rfl | (exfalso; omega) | exact hr1
  · show (mSh m (N 3) f v x z y) 2 = nI (N 2)
    unfold mSh upd
    repeat' split
    all_goals first | rfl | (exfalso; omega) | exact hr2
  · show (mSh m (N 3) f v x z y) 3 = nI (N 3 + 1)
    unfold mSh upd
    repeat' split
    all_goals first | rfl | (exfalso; omega) | exact hr3
  · intro k hk
    replace hk : k < N 0 := hk
    have hold := fun (q : k < N 0) => hrv k q
    refine ⟨?_, ?_, ?_⟩
    · show (mSh m (N 3) f v x z y) (4 + 3 * k) = (Z 1 k)
      unfold mSh upd
      repeat' split
      all_goals first | rfl | (exfalso; omega) | exact (hold (by omega)).1 | (rename_i e9; rw [e9]; exact (hold (by omega)).1) | (simp only [*]; done)
    · show (mSh m (N 3) f v x z y) (5 + 3 * k) = (Z 2 k)
      unfold mSh upd
      repeat' split
      all_goals first | rfl | (exfalso; omega) | exact (hold (by omega)).2.1 | (rename_i e9; rw [e9]; exact (hold (by omega)).2.1) | (simp only [*]; done)
    · show (mSh m (N 3) f v x z y) (6 + 3 * k) = (Z 3 k)
      unfold mSh upd
      repeat' split
      all_goals first | rfl | (exfalso; omega) | exact (hold (by omega)).2.2 | (rename_i e9; rw [e9]; exact (hold (by omega)).2.2) | (simp only [*]; done)
  · intro k hk
    replace hk : k < N 1 := hk
    show (mSh m (N 3) f v x z y) (28 + k) = allW (sAdd N Z f v x z y) (nI k) (N 0)
    rw [allW_cg (Z := Z) (Z2 := (sAdd N Z f v x z y)) (nI k) (N 0) (fun v _ => rfl), ← hrf k hk]
    unfold mSh upd
    repeat' split
    all_goals first | rfl | (exfalso; omega)
  · intro k hk j hj
    replace hk : k < N 2 := hk
    have hold := fun (q : k < N 2) => hru k q
    rcases (show j = 0 ∨ j = 1 ∨ j = 2 ∨ j = 3 ∨ j = 4 ∨ j = 5 by omega) with rfl | rfl | rfl | rfl | rfl | rfl
    · show (mSh m (N 3) f v x z y) (38 + 6 * k + 0) = (Z 5 k)
      unfold mSh upd
      repeat' split
      all_goals first | rfl | (exfalso; omega) | exact hold (by omega) 0 (by omega)
    · show (mSh m (N 3) f v x z y) (38 + 6 * k + 1) = (Z 6 k)
      unfold mSh upd
      repeat' split
      all_goals first | rfl | (exfalso; omega) | exact hold (by omega) 1 (by omega)
    · show (mSh m (N 3) f v x z y) (38 + 6 * k + 2) = (Z 7 k)
      unfold mSh upd
      repeat' split
      all_goals first | rfl | (exfalso; omega) | exact hold (by omega) 2 (by omega)
    · show (mSh m (N 3) f v x z y) (38 + 6 * k + 3) = (Z 8 k)
      unfold mSh upd
      repeat' split
      all_goals first | rfl | (exfalso; omega) | exact hold (by omega) 3 (by omega)
    · show (mSh m (N 3) f v x z y) (38 + 6 * k + 4) = (Z 9 k)
      unfold mSh upd
      repeat' split
      all_goals first | rfl | (exfalso; omega) | exact hold (by omega) 4 (by omega)
    · show (mSh m (N 3) f v x z y) (38 + 6 * k + 5) = (Z 10 k)
      unfold mSh upd
      repeat' split
      all_goals first | rfl | (exfalso; omega) | exact hold (by omega) 5 (by omega)
  · intro k hk j hj
    replace hk : k < N 3 + 1 := hk
    have hold := fun (q : k < N 3) => hrs k q
    rcases (show j = 0 ∨ j = 1 ∨ j = 2 ∨ j = 3 ∨ j = 4 by omega) with rfl | rfl | rfl | rfl | rfl
    · show (mSh m (N 3) f v x z y) (98 + 5 * k + 0) = (if k = N 3 then f else Z 11 k)
      unfold mSh upd
      repeat' split
      all_goals first | rfl | (exfalso; omega) | exact hold (by omega) 0 (by omega)
    · show (mSh m (N 3) f v x z y) (98 + 5 * k + 1) = (if k = N 3 then v else Z 12 k)
      unfold mSh upd
      repeat' split
      all_goals first | rfl | (exfalso; omega) | exact hold (by omega) 1 (by omega)
    · show (mSh m (N 3) f v x z y) (98 + 5 * k + 2) = (if k = N 3 then x else Z 13 k)
      unfold mSh upd
      repeat' split
      all_goals first | rfl | (exfalso; omega) | exact hold (by omega) 2 (by omega)
    · show (mSh m (N 3) f v x z y) (98 + 5 * k + 3) = (if k = N 3 then z else Z 14 k)
      unfold mSh upd
      repeat' split
      all_goals first | rfl | (exfalso; omega) | exact hold (by omega) 3 (by omega)
    · show (mSh m (N 3) f v x z y) (98 + 5 * k + 4) = (if k = N 3 then y else Z 15 k)
      unfold mSh upd
      repeat' split
      all_goals first | rfl | (exfalso; omega) | exact hold (by omega) 4 (by omega)
