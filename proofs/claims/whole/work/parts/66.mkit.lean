/-! my kit, 6: the reference's writing methods -/
/-- a call of the reference: F what the class throws there, rv its answer, w0 its cells behind it, wX its cells where it is refused -/
def mPost (G : va_G) (F : Nat) (rv : Int32) (w0 wX : va_W) : Option Value → Heap → Prop := fun v9 H9 => ∃ z : Int32, v9 = some (.int z) ∧ ((F = 0 ∧ z = rv ∧ va_P G vwCl w0 H9) ∨ (¬ F = 0 ∧ va_P G vwCl wX H9))
def cmI (F : Nat) : Int32 := nI F
def cmA (F : Nat) : Int32 := nI (F - 1)
def cmB (F : Nat) : Int32 := if F = 3 then 2 else nI F
def cmS (F : Nat) : Int32 := nI (F - 2)
/-- the reference's saved numbers, moved down -/
def psf (p : Nat → Int32) (n : Nat) : Nat → Int32 := fun i => if i < n then p (i + 158) else p i
/-- .. and with a row laid at k -/
def pcp (p : Nat → Int32) (k : Nat) (m : Nat → Int32) (n : Nat) : Nat → Int32 := fun i => if k ≤ i ∧ i < k + n then m (i - k) else p i
def gcp (m p : Nat → Int32) (k n : Nat) : Nat → Int32 := fun i => if i < n then p (k + i) else m i
theorem psf_0 (p : Nat → Int32) : psf p 0 = p := by funext i; unfold psf; rw [if_neg (Nat.not_lt_zero i)]
theorem psf_s (p : Nat → Int32) (n : Nat) : upd (psf p n) n (psf p n (n + 158)) = psf p (n + 1) := by
  funext i
  by_cases h : i = n
  · subst h; rw [pk_us]; unfold psf; rw [if_neg (by omega), if_pos (by omega)]
  · rw [pk_un h]; unfold psf
    by_cases q : i < n
    · rw [if_pos q, if_pos (by omega)]
    · rw [if_neg q, if_neg (by omega)]
theorem pcp_0 (p : Nat → Int32) (k : Nat) (m : Nat → Int32) : pcp p k m 0 = p := by funext i; unfold pcp; rw [if_neg (by omega)]
theorem pcp_s (p : Nat → Int32) (k : Nat) (m : Nat → Int32) (n : Nat) : upd (pcp p k m n) (k + n) (m n) = pcp p k m (n + 1) := by
  funext i
  by_cases h : i = k + n
  · subst h; rw [pk_us]; unfold pcp; rw [if_pos (by omega), Nat.add_sub_cancel_left]
  · rw [pk_un h]; unfold pcp
    by_cases q : k ≤ i ∧ i < k + n
    · rw [if_pos q, if_pos (by omega)]
    · rw [if_neg q, if_neg (by omega)]
theorem gcp_0 (m p : Nat → Int32) (k : Nat) : gcp m p k 0 = m := by funext i; unfold gcp; rw [if_neg (Nat.not_lt_zero i)]
theorem gcp_s (m p : Nat → Int32) (k n : Nat) : upd (gcp m p k n) n (p (k + n)) = gcp m p k (n + 1) := by
  funext i
  by_cases h : i = n
  · subst h; rw [pk_us]; unfold gcp; rw [if_pos (by omega)]
  · rw [pk_un h]; unfold gcp
    by_cases q : i < n
    · rw [if_pos q, if_pos (by omega)]
    · rw [if_neg q, if_neg (by omega)]
def svP (sc : Nat) (p m : Nat → Int32) : Nat → Int32 := if sc = 4 then pcp (psf p 474) (158 * 3) m 158 else pcp p (158 * sc) m 158
/-- the shims' rows moved down: n numbers from k on -/
def dsf (m : Nat → Int32) (k n : Nat) : Nat → Int32 := fun i => if k ≤ i ∧ i < k + n then m (i + 5) else m i
theorem dsf_0 (m : Nat → Int32) (k : Nat) : dsf m k 0 = m := by funext i; unfold dsf; rw [if_neg (by omega)]
theorem dsf_s (m : Nat → Int32) (k n : Nat) : upd (dsf m k n) (k + n) (dsf m k n (k + n + 5)) = dsf m k (n + 1) := by
  funext i
  by_cases h : i = k + n
  · subst h; rw [pk_us]; unfold dsf; rw [if_neg (by omega), if_pos (by omega)]
  · rw [pk_un h]; unfold dsf
    by_cases q : k ≤ i ∧ i < k + n
    · rw [if_pos q, if_pos (by omega)]
    · rw [if_neg q, if_neg (by omega)]
def is4 (x : Int32) : Prop := x = 0 ∨ x = 1 ∨ x = 2 ∨ x = 3
theorem is4_le {x : Int32} (h : is4 x) (h1 : x ≤ 0) : x = 0 ∧ rfF x = 0 := by
  rcases h with rfl | rfl | rfl | rfl
  · exact ⟨rfl, rfl⟩
  · exact absurd h1 (by decide)
  · exact absurd h1 (by decide)
  · exact absurd h1 (by decide)
theorem is4_nle {x : Int32} (h : is4 x) (h1 : ¬ x ≤ 0) : ¬ rfF x = 0 ∧ cmI (rfF x) = x := by
  rcases h with rfl | rfl | rfl | rfl
  · exact absurd (by decide) h1
  · exact ⟨by decide, rfl⟩
  · exact ⟨by decide, rfl⟩
  · exact ⟨by decide, rfl⟩
theorem plF_4 (N : Nat → Nat) (u v d : Int32) : is4 (plF N u v d) := by unfold plF is4; split <;> (try split) <;> simp
theorem slF_4 (N : Nat → Nat) (Z : Nat → Nat → Int32) (u t : Int32) : is4 (slF N Z u t) := by unfold slF is4; split <;> (try split) <;> (try split) <;> simp
theorem exF_4 (N : Nat → Nat) (Z : Nat → Nat → Int32) (v t : Int32) : is4 (exF N Z v t) := by unfold exF is4; split <;> (try split) <;> (try split) <;> simp
theorem shF_4 (N : Nat → Nat) (f v a b q : Int32) : is4 (shF N f v a b q) := by unfold shF is4; split <;> (try split) <;> (try split) <;> simp
theorem drF_4 (N : Nat → Nat) (t : Int32) : is4 (drF N t) := by unfold drF is4; split <;> simp
/-! what the reference's writers do to its row -/
def mPl (m : Nat → Int32) (u : Nat) (v d : Int32) : Nat → Int32 := upd (upd m (38 + 6 * u + 2) v) (38 + 6 * u + 3) d
def mSl (m : Nat → Int32) (u : Nat) (t : Int32) : Nat → Int32 := upd (upd (upd m (38 + 6 * u + 3) (m (38 + 6 * u + 3) + t)) (38 + 6 * u + 4) (m (38 + 6 * u + 4) + 1)) (38 + 6 * u + 5) (m (38 + 6 * u + 5) + t)
def mEx (m : Nat → Int32) (v : Nat) (t : Int32) : Nat → Int32 := upd (upd m (4 + 3 * v + 1) (m (4 + 3 * v + 1) + t)) (4 + 3 * v + 2) (m (4 + 3 * v + 2) + t)
def mSh (m : Nat → Int32) (n : Nat) (f v x z y : Int32) : Nat → Int32 := upd (upd (upd (upd (upd (upd m (98 + 5 * n) f) (98 + 5 * n + 1) v) (98 + 5 * n + 2) x) (98 + 5 * n + 3) z) (98 + 5 * n + 4) y) 3 (nI (n + 1))
def mDr (m : Nat → Int32) (n t : Nat) : Nat → Int32 := upd (dsf m (98 + 5 * t) (158 - (98 + 5 * t + 5))) 3 (nI (n - 1))
def mAV (m : Nat → Int32) (n : Nat) (x z : Int32) : Nat → Int32 := upd (upd (upd (upd m (4 + 3 * n) x) (4 + 3 * n + 1) z) (4 + 3 * n + 2) 0) 0 (nI (n + 1))
def mAF (m : Nat → Int32) (n : Nat) (x : Int32) : Nat → Int32 := upd (upd m (28 + n) x) 1 (nI (n + 1))
def mAU (m : Nat → Int32) (n : Nat) (v x : Int32) : Nat → Int32 := upd (upd (upd (upd (upd (upd (upd m (38 + 6 * n) v) (38 + 6 * n + 1) x) (38 + 6 * n + 2) (-1)) (38 + 6 * n + 3) (-1)) (38 + 6 * n + 4) 0) (38 + 6 * n + 5) 0) 2 (nI (n + 1))
def mPu (m : Nat → Int32) (f v : Nat) (h : Bool) : Nat → Int32 := upd m (28 + f) (if h = true then m (28 + f) ||| ((1 : Int32) <<< (nI v &&& 31)) else m (28 + f) &&& (((1 : Int32) <<< (nI v &&& 31)) ^^^ (-1)))
theorem nIl1 : nI 1 = 1 := rfl
theorem nIl2 : nI 2 = 2 := rfl
theorem nIl3 : nI 3 = 3 := rfl
