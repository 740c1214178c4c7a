/-! addFeature and put: what holds, and the reference -/
theorem apF_at (g : Nat → Int32) (x : Int32) (f : Nat) : ∀ n v, apF g x f n v = if v < n ∧ cnt1 x (nI v) = true then g v ||| ((1 : Int32) <<< (nI f &&& 31)) else g v
  | 0, v => by rw [apF, if_neg (fun q => absurd q.1 (Nat.not_lt_zero v))]
  | n + 1, v => by
    have ih := apF_at g x f n
    rw [apF]
    by_cases q : v = n
    · subst q
      split
      · rename_i c; rw [pk_us, ih v, if_neg (fun q => absurd q.1 (Nat.lt_irrefl v)), if_pos ⟨Nat.lt_succ_self v, c⟩]
      · rename_i c; rw [ih v, if_neg (fun q => absurd q.1 (Nat.lt_irrefl v)), if_neg (fun q => c q.2)]
    · have e : (v < n ∧ cnt1 x (nI v) = true) = (v < n + 1 ∧ cnt1 x (nI v) = true) := propext ⟨fun h => ⟨by omega, h.2⟩, fun h => ⟨by omega, h.2⟩⟩
      split
      · rw [pk_un q, ih v]; simp only [e]
      · rw [ih v]; simp only [e]
theorem wf_af {N : Nat → Nat} {Z : Nat → Nat → Int32} (hw : wf N Z) (x : Int32) (h10 : N 1 < 10) : wf (va_up N 1 (N 1 + 1)) (va_up Z 4 (apF (Z 4) x (N 1) (N 0))) := by
  obtain ⟨h1, h2, h3, h4, h5, h6, h7⟩ := hw
  refine ⟨⟨h1.1, ?_, h1.2.2.1, h1.2.2.2⟩, h2, h3, h4, fun t ht => ?_, fun v hv => ?_, fun u hu => ?_⟩
  · show N 1 + 1 ≤ 10; omega
  · obtain ⟨⟨k, hk, e⟩, b⟩ := h5 t ht
    exact ⟨⟨k, Nat.lt_succ_of_lt hk, e⟩, b⟩
  · obtain ⟨a0, a1⟩ := h6 v hv
    show 0 ≤ (apF (Z 4) x (N 1) (N 0) v).toInt ∧ (apF (Z 4) x (N 1) (N 0) v).toInt < 2 ^ (N 1 + 1)
    refine rng_bits (by omega) (fun i hi h32 => ?_)
    have hz := bt_lt (n := N 1) (by omega) a0 a1 (show N 1 ≤ i by omega)
    rw [apF_at]
    split
    · rw [b_or, hz, b_bit (by omega) h32, decide_eq_false (by omega)]; rfl
    · exact hz
  · obtain ⟨a0, a1⟩ := h7 u hu
    show 0 ≤ (Z 6 u).toInt ∧ (Z 6 u).toInt < 2 ^ (N 1 + 1)
    exact rng_bits (by omega) (fun i hi h32 => bt_lt (n := N 1) (by omega) a0 a1 (show N 1 ≤ i by omega))
theorem rel_af {N : Nat → Nat} {Z : Nat → Nat → Int32} {m : Nat → Int32} (hw : wf N Z) (hr : rel N Z m) {x : Int32} (h10 : N 1 < 10) (hx0 : 0 ≤ x.toInt) (hx1 : x.toInt < 2 ^ N 0) : rel (va_up N 1 (N 1 + 1)) (va_up Z 4 (apF (Z 4) x (N 1) (N 0))) (mAF m (N 1) x) := by
  have hb := hw.1
  obtain ⟨hr0, hr1, hr2, hr3, hrv, hrf, hru, hrs⟩ := hr
  have hsame : ∀ i, i ≠ 28 + N 1 → i ≠ 1 → mAF m (N 1) x i = m i := fun i a b => by unfold mAF; rw [pk_un b, pk_un a]
  refine ⟨?_, ?_, ?_, ?_, fun v hv => ?_, fun k hk => ?_, fun u hu j hj => ?_, fun t ht j hj => ?_⟩
  · rw [hsame 0 (by omega) (by omega)]; exact hr0
  · exact pk_us
  · rw [hsame 2 (by omega) (by omega)]; exact hr2
  · rw [hsame 3 (by omega) (by omega)]; exact hr3
  · replace hv : v < N 0 := hv
    rw [hsame _ (by omega) (by omega), hsame _ (by omega) (by omega), hsame _ (by omega) (by omega)]; exact hrv v hv
  · replace hk : k < N 1 + 1 := hk
    show mAF m (N 1) x (28 + k) = allW (va_up Z 4 (apF (Z 4) x (N 1) (N 0))) (nI k) (N 0)
    refine b_ext fun i hi => ?_
    rw [allW_bt _ _ _ (by omega) i hi]
    show bt (mAF m (N 1) x (28 + k)) i = (decide (i < N 0) && cnt1 (apF (Z 4) x (N 1) (N 0) i) (nI k))
    rw [cnt_bt _ (show k < 32 by omega), apF_at]
    by_cases q : k = N 1
    · subst q
      rw [show mAF m (N 1) x (28 + N 1) = x by unfold mAF; rw [pk_un (by omega), pk_us]]
      by_cases hin : i < N 0
      · have hz := bt_lt (n := N 1) (by omega) (hw.2.2.2.2.2.1 i hin).1 (hw.2.2.2.2.2.1 i hin).2 (Nat.le_refl _)
        rw [decide_eq_true hin, Bool.true_and]
        by_cases c : cnt1 x (nI i) = true
        · rw [if_pos ⟨hin, c⟩, b_or, b_bit (by omega) (by omega), decide_eq_true rfl, Bool.or_true, ← cnt_bt x hi, c]
        · rw [if_neg (fun q => c q.2), hz, ← cnt_bt x hi]; exact Bool.eq_false_iff.mpr c
      · rw [decide_eq_false hin, Bool.false_and, bt_lt (n := N 0) (by omega) hx0 hx1 (by omega)]
    · rw [hsame _ (by omega) (by omega), hrf k (by omega), allW_bt _ _ _ (by omega) i hi, cnt_bt _ (show k < 32 by omega)]
      congr 1
      split
      · rw [b_or, b_bit (by omega) (by omega), decide_eq_false q, Bool.or_false]
      · rfl
  · replace hu : u < N 2 := hu
    rw [hsame _ (by omega) (by omega)]
    rcases (show j = 0 ∨ j = 1 ∨ j = 2 ∨ j = 3 ∨ j = 4 ∨ j = 5 by omega) with rfl | rfl | rfl | rfl | rfl | rfl
    all_goals exact hru u hu _ (by omega)
  · replace ht : t < N 3 := ht
    rw [hsame _ (by omega) (by omega)]
    rcases (show j = 0 ∨ j = 1 ∨ j = 2 ∨ j = 3 ∨ j = 4 by omega) with rfl | rfl | rfl | rfl | rfl
    all_goals exact hrs t ht _ (by omega)
theorem wf_pu {N : Nat → Nat} {Z : Nat → Nat → Int32} (hw : wf N Z) {f v : Nat} (hf : f < N 1) : wf N (va_up Z 4 (upd (Z 4) v (Z 4 v ^^^ ((1 : Int32) <<< (nI f &&& 31))))) := by
  obtain ⟨h1, h2, h3, h4, h5, h6, h7⟩ := hw
  refine ⟨h1, h2, h3, h4, h5, fun k hk => ?_, h7⟩
  show 0 ≤ (upd (Z 4) v (Z 4 v ^^^ ((1 : Int32) <<< (nI f &&& 31))) k).toInt ∧ (upd (Z 4) v (Z 4 v ^^^ ((1 : Int32) <<< (nI f &&& 31))) k).toInt < 2 ^ N 1
  by_cases q : k = v
  · subst q
    rw [pk_us]
    obtain ⟨a0, a1⟩ := h6 k hk
    exact rng_bits (by omega) (fun i hi h32 => by rw [b_xor, bt_lt (n := N 1) (by omega) a0 a1 hi, b_bit (by omega) h32, decide_eq_false (by omega)]; rfl)
  · rw [pk_un q]; exact h6 k hk
theorem b_not {x : Int32} {i : Nat} (hi : i < 32) : bt (x ^^^ (-1)) i = !bt x i := by rw [b_xor, b_m1 i hi]; cases bt x i <;> rfl
theorem rel_pu {N : Nat → Nat} {Z : Nat → Nat → Int32} {m : Nat → Int32} (hw : wf N Z) (hr : rel N Z m) {f v : Nat} {h : Bool} (hf : f < N 1) (hv : v < N 0) (hh : ¬ cnt1 (Z 4 v) (nI f) = h) : rel N (va_up Z 4 (upd (Z 4) v (Z 4 v ^^^ ((1 : Int32) <<< (nI f &&& 31))))) (mPu m f v h) := by
  have hb := hw.1
  obtain ⟨hr0, hr1, hr2, hr3, hrv, hrf, hru, hrs⟩ := hr
  have hsame : ∀ i, i ≠ 28 + f → mPu m f v h i = m i := fun i a => by unfold mPu; rw [pk_un a]
  refine ⟨?_, ?_, ?_, ?_, fun k hk => ?_, fun k hk => ?_, fun u hu j hj => ?_, fun t ht j hj => ?_⟩
  · rw [hsame 0 (by omega)]; exact hr0
  · rw [hsame 1 (by omega)]; exact hr1
  · rw [hsame 2 (by omega)]; exact hr2
  · rw [hsame 3 (by omega)]; exact hr3
  · rw [hsame _ (by omega), hsame _ (by omega), hsame _ (by omega)]; exact hrv k hk
  · show mPu m f v h (28 + k) = allW (va_up Z 4 (upd (Z 4) v (Z 4 v ^^^ ((1 : Int32) <<< (nI f &&& 31))))) (nI k) (N 0)
    refine b_ext fun i hi => ?_
    rw [allW_bt _ _ _ (by omega) i hi]
    show bt (mPu m f v h (28 + k)) i = (decide (i < N 0) && cnt1 (upd (Z 4) v (Z 4 v ^^^ ((1 : Int32) <<< (nI f &&& 31))) i) (nI k))
    have hold : bt (m (28 + k)) i = (decide (i < N 0) && bt (Z 4 i) k) := by rw [hrf k hk, allW_bt _ _ _ (by omega) i hi, cnt_bt _ (show k < 32 by omega)]
    rw [cnt_bt _ (show k < 32 by omega)]
    by_cases q : k = f
    · subst q
      rw [show mPu m k v h (28 + k) = (if h = true then m (28 + k) ||| ((1 : Int32) <<< (nI v &&& 31)) else m (28 + k) &&& (((1 : Int32) <<< (nI v &&& 31)) ^^^ (-1))) by unfold mPu; rw [pk_us]]
      rw [cnt_bt _ (show k < 32 by omega)] at hh
      by_cases e : i = v
      · subst e
        rw [pk_us, b_xor, b_bit (by omega) (by omega), decide_eq_true rfl, decide_eq_true hv, Bool.true_and]
        cases h
        · rw [if_neg (by decide), b_and, b_not hi, b_bit (by omega) hi, decide_eq_true rfl]
          cases g : bt (Z 4 i) k
          · exact absurd g hh
          · rw [Bool.not_true, Bool.and_false]; rfl
        · rw [if_pos rfl, b_or, b_bit (by omega) hi, decide_eq_true rfl, Bool.or_true]
          cases g : bt (Z 4 i) k
          · rfl
          · exact absurd g hh
      · rw [pk_un e]
        cases h
        · rw [if_neg (by decide), b_and, b_not hi, b_bit (by omega) hi, decide_eq_false e, hold, Bool.not_false, Bool.and_true]
        · rw [if_pos rfl, b_or, b_bit (by omega) hi, decide_eq_false e, hold, Bool.or_false]
    · rw [hsame _ (by omega), hold]
      congr 1
      by_cases e : i = v
      · subst e; rw [pk_us, b_xor, b_bit (by omega) (by omega), decide_eq_false q, Bool.xor_false]
      · rw [pk_un e]
  · rw [hsame _ (by omega)]
    rcases (show j = 0 ∨ j = 1 ∨ j = 2 ∨ j = 3 ∨ j = 4 ∨ j = 5 by omega) with rfl | rfl | rfl | rfl | rfl | rfl
    all_goals exact hru u hu _ (by omega)
  · rw [hsame _ (by omega)]
    rcases (show j = 0 ∨ j = 1 ∨ j = 2 ∨ j = 3 ∨ j = 4 by omega) with rfl | rfl | rfl | rfl | rfl
    all_goals exact hrs t ht _ (by omega)
/-! the saved rows -/
def srel (sc : Nat) (M : Nat → Nat → Nat) (Y : Nat → Nat → Nat → Int32) (p : Nat → Int32) : Prop := ∀ i, i < sc → wf (M i) (Y i) ∧ rel (M i) (Y i) (fun k => p (158 * i + k))
theorem rel_cg {N : Nat → Nat} {Z : Nat → Nat → Int32} {m m2 : Nat → Int32} (hw : wf N Z) (hr : rel N Z m) (h : ∀ k, k < 158 → m2 k = m k) : rel N Z m2 := by
  have hb := hw.1
  obtain ⟨hr0, hr1, hr2, hr3, hrv, hrf, hru, hrs⟩ := hr
  refine ⟨?_, ?_, ?_, ?_, fun v hv => ?_, fun k hk => ?_, fun u hu j hj => ?_, fun t ht j hj => ?_⟩
  · rw [h 0 (by omega)]; exact hr0
  · rw [h 1 (by omega)]; exact hr1
  · rw [h 2 (by omega)]; exact hr2
  · rw [h 3 (by omega)]; exact hr3
  · rw [h _ (by omega), h _ (by omega), h _ (by omega)]; exact hrv v hv
  · rw [h _ (by omega)]; exact hrf k hk
  · rw [h _ (by omega)]; exact hru u hu j hj
  · rw [h _ (by omega)]; exact hrs t ht j hj
theorem srel_sv {sc : Nat} {M : Nat → Nat → Nat} {Y : Nat → Nat → Nat → Int32} {p : Nat → Int32} {N : Nat → Nat} {Z : Nat → Nat → Int32} {m : Nat → Int32} (hsc : sc ≤ 4) (hs : srel sc M Y p) (hw : wf N Z) (hr : rel N Z m) : srel (svC sc) (psh sc M N) (psh sc Y Z) (svP sc p m) := by
  intro i hi
  unfold svC at hi
  unfold psh svP
  by_cases h4 : sc = 4
  · subst h4
    rw [if_pos rfl] at hi
    simp only [if_true]
    by_cases q : i = 3
    · subst q
      rw [va_up_self, va_up_self]
      refine ⟨hw, rel_cg hw hr (fun k hk => ?_)⟩
      show pcp (psf p 474) (158 * 3) m 158 (158 * 3 + k) = m k
      unfold pcp; rw [if_pos (by omega), Nat.add_sub_cancel_left]
    · rw [va_up_ne _ _ q, va_up_ne _ _ q]
      have hrot : rot M i = M (i + 1) ∧ rot Y i = Y (i + 1) := by
        rcases (show i = 0 ∨ i = 1 ∨ i = 2 by omega) with rfl | rfl | rfl <;> exact ⟨rfl, rfl⟩
      rw [hrot.1, hrot.2]
      obtain ⟨a, b⟩ := hs (i + 1) (by omega)
      refine ⟨a, rel_cg a b (fun k hk => ?_)⟩
      show pcp (psf p 474) (158 * 3) m 158 (158 * i + k) = p (158 * (i + 1) + k)
      unfold pcp psf
      rw [if_neg (by omega), if_pos (by omega), show 158 * i + k + 158 = 158 * (i + 1) + k by omega]
  · rw [if_neg h4] at hi
    simp only [if_neg h4]
    by_cases q : i = sc
    · subst q
      rw [va_up_self, va_up_self]
      refine ⟨hw, rel_cg hw hr (fun k hk => ?_)⟩
      show pcp p (158 * i) m 158 (158 * i + k) = m k
      unfold pcp; rw [if_pos (by omega), Nat.add_sub_cancel_left]
    · rw [va_up_ne _ _ q, va_up_ne _ _ q]
      obtain ⟨a, b⟩ := hs i (by omega)
      refine ⟨a, rel_cg a b (fun k hk => ?_)⟩
      show pcp p (158 * sc) m 158 (158 * i + k) = p (158 * i + k)
      unfold pcp; rw [if_neg (by omega)]
theorem srel_un {sc : Nat} {M : Nat → Nat → Nat} {Y : Nat → Nat → Nat → Int32} {p m : Nat → Int32} (h : 0 < sc) (hs : srel sc M Y p) : srel (sc - 1) M Y p ∧ wf (M (sc - 1)) (Y (sc - 1)) ∧ rel (M (sc - 1)) (Y (sc - 1)) (gcp m p (158 * (sc - 1)) 158) := by
  refine ⟨fun i hi => hs i (by omega), (hs (sc - 1) (by omega)).1, ?_⟩
  obtain ⟨a, b⟩ := hs (sc - 1) (by omega)
  exact rel_cg a b (fun k hk => by show gcp m p (158 * (sc - 1)) 158 k = p (158 * (sc - 1) + k); unfold gcp; rw [if_pos hk])
