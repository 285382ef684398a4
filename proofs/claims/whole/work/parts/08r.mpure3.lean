theorem lcmp0 {x y : Int64} : lg_cmp x y = 0 ↔ x = y := by
  unfold lg_cmp
  constructor
  · intro h
    by_cases h1 : y < x
    · rw [if_pos h1] at h; exact absurd h (by decide)
    · rw [if_neg h1] at h
      by_cases h2 : x < y
      · simp [h2] at h; exact h
      · exact Int64.le_antisymm (Int64.not_lt.mp h1) (Int64.not_lt.mp h2)
  · rintro rfl
    rw [if_neg (Int64.lt_irrefl)]
    simp
def mBindP (u : MS) (p0 p1 p2 : Int32) (r : Int32) (u' : MS) : Prop := match u with
  | (d, sc, sz, sg, ik, cp, wt, wa, ch, ct, _) =>
    ((isD p0 ∧ ¬ p1 < 0 ∧ ¬ 8 < p1 ∧ ¬ p2 < 0 ∧ p2 ≤ 40) ∧ r = 0 ∧ ∃ k : Nat, k < 6 ∧ ¬ mUsed d (nI k) p0 ∧ u' = (upd d (cl p0) (nI k), upd sc k p1, upd sz k p2, mZero sg k 40, ik, cp, wt, wa, ch, upd ct 7 (ct 7 + 1), 0)) ∨
    (¬ (isD p0 ∧ ¬ p1 < 0 ∧ ¬ 8 < p1 ∧ ¬ p2 < 0 ∧ p2 ≤ 40) ∧ r = -99 ∧ u' = (d, sc, sz, sg, ik, cp, wt, wa, ch, ct, 0))
def mDiff (sg : Nat → Int64) (b1 b2 n1 n2 : Nat) (r : Int32) : Prop :=
  (∃ k : Nat, k < n1 ∧ k < n2 ∧ (∀ j, j < k → sg (40 * b1 + j) = sg (40 * b2 + j)) ∧ ¬ sg (40 * b1 + k) = sg (40 * b2 + k) ∧ r = nI k) ∨
  ((∀ j, j < n1 → j < n2 → sg (40 * b1 + j) = sg (40 * b2 + j)) ∧ ((n1 = n2 ∧ r = -60) ∨ (n1 < n2 ∧ r = nI n1) ∨ (n2 < n1 ∧ r = nI n2)))
def mDifferP (u : MS) (p0 p1 : Int32) (r : Int32) (u' : MS) : Prop := match u with
  | (d, sc, sz, sg, ik, cp, wt, wa, ch, ct, _) => u' = (d, sc, sz, sg, ik, cp, wt, wa, ch, ct, 0) ∧
    ((¬ (isD p0 ∧ isD p1) ∧ r = -99) ∨ ((isD p0 ∧ isD p1) ∧ ¬ mUnl d sc p0 p1 = 0 ∧ r = mUnl d sc p0 p1) ∨
    ((isD p0 ∧ isD p1) ∧ mUnl d sc p0 p1 = 0 ∧ ∃ b1 b2 n1 n2 : Nat, b1 < 6 ∧ b2 < 6 ∧ d (cl p0) = nI b1 ∧ d (cl p1) = nI b2 ∧ sz b1 = nI n1 ∧ sz b2 = nI n2 ∧ n1 ≤ 40 ∧ n2 ≤ 40 ∧ mDiff sg b1 b2 n1 n2 r))
theorem le_of_c {a b : Nat} (ha : a < 2 ^ 31) (hb : b < 2 ^ 31) (h : nI a ≤ nI b) : a ≤ b := (nI_leI ha hb).mp h
theorem lt_of_c {a b : Nat} (ha : a < 2 ^ 31) (hb : b < 2 ^ 31) (h : ¬ nI a ≤ nI b) : b < a := by
  rw [nI_leI ha hb] at h; omega
/-- the loop that seeks the stop, from the passage's end down -/
def mSeek (sc : Nat → Int32) (sg : Nat → Int64) (bf bt ii nn kk st : Nat) : Prop := kk ≤ nn ∧ kk ≤ st ∧ st ≤ nn ∧ (∀ k, kk ≤ k → k < st → ¬ mBad sc sg bf bt ii k) ∧ (st < nn → mBad sc sg bf bt ii st)
theorem mSeek.keep {sc : Nat → Int32} {sg : Nat → Int64} {bf bt ii nn kk st : Nat} (h : mSeek sc sg bf bt ii nn (kk + 1) st) (hb : ¬ mBad sc sg bf bt ii kk) : mSeek sc sg bf bt ii nn kk st := by
  obtain ⟨h1, h2, h3, h4, h5⟩ := h
  refine ⟨by omega, by omega, h3, fun k hk hs => ?_, h5⟩
  rcases Nat.lt_or_ge kk k with q | q
  · exact h4 k (by omega) hs
  · rw [show k = kk by omega]; exact hb
theorem mSeek.stop {sc : Nat → Int32} {sg : Nat → Int64} {bf bt ii nn kk st : Nat} (h : mSeek sc sg bf bt ii nn (kk + 1) st) (hb : mBad sc sg bf bt ii kk) : mSeek sc sg bf bt ii nn kk kk := by
  obtain ⟨h1, h2, h3, h4, h5⟩ := h
  exact ⟨by omega, by omega, by omega, fun k hk hs => by omega, fun _ => hb⟩
theorem mSeek.done {sc : Nat → Int32} {sg : Nat → Int64} {bf bt ii nn st : Nat} (h : mSeek sc sg bf bt ii nn 0 st) : mStop sc sg bf bt ii nn st := ⟨h.2.2.1, fun k hk => h.2.2.2.1 k (Nat.zero_le k) hk, h.2.2.2.2⟩
theorem nI_m1_neg {kk : Nat} (hk : kk < 2 ^ 30) (h : nI kk - 1 < 0) : kk = 0 := by
  rcases kk with _ | k
  · rfl
  · rw [nI_pred] at h; exact absurd h (nI_pos (by omega))
theorem nI_m1_pos {kk : Nat} (h : ¬ nI kk - 1 < 0) : ∃ k, kk = k + 1 := by
  rcases kk with _ | k
  · exact absurd (by decide) h
  · exact ⟨k, rfl⟩
/-- what the copying loop has done behind k steps -/
def mPart (sg : Nat → Int64) (S D st k : Nat) (back : Int32) : Nat → Int64 := if back = 1 then mCpy sg S D (st - k) st else mCpy sg S D 0 k
theorem mPart_0 (sg : Nat → Int64) (S D st : Nat) (back : Int32) : mPart sg S D st 0 back = sg := by
  unfold mPart
  by_cases h : back = 1
  · rw [if_pos h]; exact mCpy_0 sg S D st
  · rw [if_neg h]; exact mCpy_0 sg S D 0
theorem mPart_st (sg : Nat → Int64) (S D st : Nat) (back : Int32) : mPart sg S D st st back = mCpy sg S D 0 st := by
  unfold mPart
  by_cases h : back = 1
  · rw [if_pos h, Nat.sub_self]
  · rw [if_neg h]
/-- a step of it: the sign that is read is as it was ahead of the passage -/
theorem mPart_read {sg : Nat → Int64} {bf bt ii jj st k : Nat} {back : Int32} (hi : ii + st ≤ 40) (hj : jj + st ≤ 40) (hk : k < st) (hb : (back = 1 ∧ bf = bt ∧ ii < jj) ∨ (back = 0 ∧ ¬ (bf = bt ∧ ii < jj))) :
    mPart sg (40 * bf + ii) (40 * bt + jj) st k back (40 * bf + ii + (if back = 1 then st - 1 - k else k)) = sg (40 * bf + ii + (if back = 1 then st - 1 - k else k)) := by
  unfold mPart
  rcases hb with ⟨rfl, rfl, h⟩ | ⟨rfl, h⟩
  · rw [if_pos rfl, if_pos rfl]
    exact mCpy_out sg (by omega)
  · rw [if_neg (by decide), if_neg (by decide)]
    apply mCpy_out
    by_cases he : bf = bt
    · subst he
      have : ¬ ii < jj := fun q => h ⟨rfl, q⟩
      omega
    · omega
theorem mPart_step {sg : Nat → Int64} {bf bt ii jj st k : Nat} {back : Int32} (hk : k < st) (hb : back = 1 ∨ back = 0) :
    vp_updL (mPart sg (40 * bf + ii) (40 * bt + jj) st k back) (40 * bt + jj + (if back = 1 then st - 1 - k else k)) (sg (40 * bf + ii + (if back = 1 then st - 1 - k else k))) = mPart sg (40 * bf + ii) (40 * bt + jj) st (k + 1) back := by
  unfold mPart
  rcases hb with rfl | rfl
  · rw [if_pos rfl, if_pos rfl, if_pos rfl]
    have h1 : st - k = (st - 1 - k) + 1 := by omega
    have h2 : st - (k + 1) = st - 1 - k := by omega
    rw [h1, h2]
    exact mCpy_dn sg _ _ _ _ (by omega)
  · rw [if_neg (by decide), if_neg (by decide), if_neg (by decide)]
    exact mCpy_up sg _ _ 0 k (by omega)
theorem mTal_in {r : Int32} (h : r = -1 ∨ r = -2 ∨ r = -3 ∨ (∃ k : Nat, k ≤ 40 ∧ r = nI k) ∨ (∃ k : Nat, k < 40 ∧ r = -10 - nI k)) : vp_in (mTal r) 8 := by
  rcases h with rfl | rfl | rfl | ⟨k, hk, rfl⟩ | ⟨k, hk, rfl⟩
  · exact vp_in_nI (n := 2) (by decide) (by decide)
  · exact vp_in_nI (n := 3) (by decide) (by decide)
  · exact vp_in_nI (n := 4) (by decide) (by decide)
  · unfold mTal; rw [if_pos (nI_pos (by omega))]; exact vp_in_nI (n := 1) (by decide) (by decide)
  · have h1 := (m10 ⟨k, by omega⟩).2
    unfold mTal
    rw [if_neg (fun q => q (Int32.lt_of_le_of_lt h1 (by decide))), if_pos h1]; exact vp_in_nI (n := 5) (by decide) (by decide)
