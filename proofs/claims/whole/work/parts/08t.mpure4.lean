/-- the waiting orders of a scribe move up -/
def mShift (wt : Nat → Int32) (a n : Nat) : Nat → Int32 := fun q => if a ≤ q ∧ q < a + n then wt (q + 5) else wt q
theorem mShift_0 (wt : Nat → Int32) (a : Nat) : mShift wt a 0 = wt := by
  funext q; unfold mShift; rw [if_neg (by omega)]
theorem mShift_at (wt : Nat → Int32) (a k : Nat) : mShift wt a k (a + k + 5) = wt (a + k + 5) := by
  unfold mShift; rw [if_neg (by omega)]
theorem mShift_s (wt : Nat → Int32) (a k : Nat) : upd (mShift wt a k) (a + k) (wt (a + k + 5)) = mShift wt a (k + 1) := by
  funext q; unfold mShift upd
  by_cases h : q = a + k
  · rw [if_pos h, if_pos (by omega), h]
  · rw [if_neg h]; dsimp only
    by_cases h2 : a ≤ q ∧ q < a + k
    · rw [if_pos h2, if_pos (by omega)]
    · rw [if_neg h2, if_neg (by omega)]
def mDayStep (s : Nat) (u u' : MS) (i : Nat) : Prop := match u with
  | (d, sc, sz, sg, ik, cp, wt, wa, ch, ct, th) =>
    (wa s = 0 ∧ u' = u ∧ i = 0) ∨
    (¬ wa s = 0 ∧ ∃ (r : Int32) (u1 : MS), mCopyP u (nI s) (wt (40 * s)) (wt (40 * s + 1)) (wt (40 * s + 2)) (wt (40 * s + 3)) (wt (40 * s + 4)) r u1 ∧
      ((r = -50 ∧ u' = u1 ∧ i = 0) ∨ (¬ r = -50 ∧ i = 1 ∧ match u1 with
        | (d1, sc1, sz1, sg1, ik1, cp1, wt1, wa1, ch1, ct1, th1) => ∃ w : Nat, wa s = nI (w + 1) ∧ w < 8 ∧ u' = (d1, sc1, sz1, sg1, ik1, cp1, mShift wt1 (40 * s) (5 * w), upd wa1 s (nI w), ch1, ct1, th1))))
def mDayN : Nat → MS → MS → Nat → Prop
  | 0, u, u', n => u' = u ∧ n = 0
  | k + 1, u, u', n => ∃ (u1 : MS) (n1 i : Nat), mDayN k u u1 n1 ∧ mDayStep k u1 u' i ∧ n = n1 + i
def mI (u : MS) (c : Nat) : Prop := match u with
  | (d, _, sz, _, _, _, _, wa, _, ct, th) => dOK d ∧ zOK sz ∧ wOK wa ∧ th = 0 ∧ ∃ c', c0OK ct c' ∧ c' ≤ c
theorem mTal_ne {r : Int32} (h : r = -1 ∨ r = -2 ∨ r = -3 ∨ (∃ k : Nat, k ≤ 40 ∧ r = nI k) ∨ (∃ k : Nat, k < 40 ∧ r = -10 - nI k)) : ∃ k, 1 ≤ k ∧ k ≤ 5 ∧ mTal r = nI k := by
  rcases h with rfl | rfl | rfl | ⟨k, hk, rfl⟩ | ⟨k, hk, rfl⟩
  · exact ⟨2, by decide, by decide, by decide⟩
  · exact ⟨3, by decide, by decide, by decide⟩
  · exact ⟨4, by decide, by decide, by decide⟩
  · exact ⟨1, by decide, by decide, by unfold mTal; rw [if_pos (nI_pos (by omega))]; rfl⟩
  · have h1 := (m10 ⟨k, by omega⟩).2
    exact ⟨5, by decide, by decide, by unfold mTal; rw [if_neg (fun q => q (Int32.lt_of_le_of_lt h1 (by decide))), if_pos h1]; rfl⟩
theorem mCt_0 {ct : Nat → Int32} {r : Int32} (h : r = -1 ∨ r = -2 ∨ r = -3 ∨ (∃ k : Nat, k ≤ 40 ∧ r = nI k) ∨ (∃ k : Nat, k < 40 ∧ r = -10 - nI k)) : mCt ct r 0 = ct 0 + 1 := by
  obtain ⟨k, h1, h2, e⟩ := mTal_ne h
  unfold mCt
  rw [e, cl_nI (by omega), pk_un (by omega), pk_us]
theorem mCopy_keep {d sc sz : Nat → Int32} {sg : Nat → Int64} {ik cp wt wa ch ct : Nat → Int32} {th p0 p1 p2 p3 p4 p5 r : Int32} {u' : MS} (h : mCopyP (d, sc, sz, sg, ik, cp, wt, wa, ch, ct, th) p0 p1 p2 p3 p4 p5 r u') : ∃ (sg' : Nat → Int64) (ik' cp' ch' ct' : Nat → Int32), u' = (d, sc, sz, sg', ik', cp', wt, wa, ch', ct', 0) ∧ (ct' 0 = ct 0 ∨ ct' 0 = ct 0 + 1) := by
  rcases h with ⟨-, -, rfl⟩ | ⟨-, -, -, rfl⟩ | ⟨-, -, sg', hp, rfl⟩
  · exact ⟨sg, ik, cp, ch, ct, rfl, Or.inl rfl⟩
  · exact ⟨sg, ik, cp, ch, ct, rfl, Or.inl rfl⟩
  · exact ⟨sg', _, _, _, _, rfl, Or.inr (mCt_0 (mPass_rng hp))⟩
theorem c0_next {ct ct' : Nat → Int32} {c c0 : Nat} (h : c0OK ct c) (hc : c ≤ c0) (hb : c0 + 1 < 2 ^ 30) (e : ct' 0 = ct 0 ∨ ct' 0 = ct 0 + 1) : ∃ c', c0OK ct' c' ∧ c' ≤ c0 + 1 := by
  rcases e with e | e
  · exact ⟨c, ⟨e.trans h.1, h.2⟩, by omega⟩
  · exact ⟨c + 1, ⟨by rw [e, h.1, nI_1], by omega⟩, by omega⟩
theorem wOK_dec {wa : Nat → Int32} (h : wOK wa) {s w : Nat} (hw : w < 8) : wOK (upd wa s (nI w)) := by
  intro s' hs'
  by_cases e : s' = s
  · subst e; exact ⟨w, by omega, pk_us⟩
  · rw [pk_un e]; exact h s' hs'
theorem wOK_pos {wa : Nat → Int32} (h : wOK wa) {s : Nat} (hs : s < 3) (hn : ¬ wa s = 0) : ∃ w, w < 8 ∧ wa s = nI (w + 1) := by
  obtain ⟨w, h1, h2⟩ := h s hs
  rcases w with _ | w
  · exact absurd (h2.trans nI_0) hn
  · exact ⟨w, by omega, h2⟩
theorem in120 {k : Nat} (h : k < 120) : vp_in (nI k) 120 := vp_in_nI h (by decide)
theorem nI5 (s k : Nat) : nI s + nI k = nI (s + k) := nI_add s k
theorem mul40 (s : Nat) : (40 : Int32) * nI s = nI (40 * s) := by rw [show (40 : Int32) = nI 40 from rfl, pk_mul]
theorem mul5 (s : Nat) : (5 : Int32) * nI s = nI (5 * s) := by rw [show (5 : Int32) = nI 5 from rfl, pk_mul]
