/-! the class's larger methods, as relations -/
theorem six {s : Int32} (h1 : ¬ s < 0) (h2 : ¬ 6 ≤ s) : s = 0 ∨ s = 1 ∨ s = 2 ∨ s = 3 ∨ s = 4 ∨ s = 5 := by
  obtain ⟨j, hj, rfl⟩ := vp_in_of (in_of (N := 6) (n := 6) rfl h1 h2) (by decide)
  rcases (show j = 0 ∨ j = 1 ∨ j = 2 ∨ j = 3 ∨ j = 4 ∨ j = 5 by omega) with rfl | rfl | rfl | rfl | rfl | rfl
  · exact Or.inl rfl
  · exact Or.inr (Or.inl rfl)
  · exact Or.inr (Or.inr (Or.inl rfl))
  · exact Or.inr (Or.inr (Or.inr (Or.inl rfl)))
  · exact Or.inr (Or.inr (Or.inr (Or.inr (Or.inl rfl))))
  · exact Or.inr (Or.inr (Or.inr (Or.inr (Or.inr rfl))))
def cHin (s t : Int32) : Int32 := if s = -1 ∨ t = -1 then -1 else if cAlike s t then 0 else -2
theorem mDone_pos {r : Int32} (h : ¬ r < 0) : r = mDone r := by
  unfold mDone
  rw [if_neg (fun q => h (Int32.lt_of_le_of_lt q (by decide)))]
  by_cases h2 : 0 < r
  · rw [if_pos h2]
  · rw [if_neg h2]; exact Int32.le_antisymm (Int32.not_lt.mp h2) (Int32.not_lt.mp h)
theorem mDone_mid {r : Int32} (h : r < 0) (h2 : -10 < r) : 0 = mDone r := by
  unfold mDone
  rw [if_neg (Int32.not_le.mpr h2), if_neg (fun q => absurd (Int32.lt_trans q h) (Int32.lt_irrefl))]
theorem mDone_low {r : Int32} (h2 : ¬ -10 < r) : -10 - r = mDone r := by
  unfold mDone; rw [if_pos (Int32.not_lt.mp h2)]
abbrev rRng (r : Int32) : Prop := r = -1 ∨ r = -2 ∨ r = -3 ∨ (∃ k : Nat, k ≤ 40 ∧ r = nI k) ∨ (∃ k : Nat, k < 40 ∧ r = -10 - nI k)
theorem rRng_default {r : Int32} (h : rRng r) (h1 : ¬ r = -1) (h2 : ¬ r = -2) (h3 : ¬ r = -3) : (∃ k : Nat, k ≤ 40 ∧ r = nI k) ∨ (∃ k : Nat, k < 40 ∧ r = -10 - nI k) := by
  rcases h with q | q | q | q | q
  · exact absurd q h1
  · exact absurd q h2
  · exact absurd q h3
  · exact Or.inl q
  · exact Or.inr q
theorem m10t : ∀ k : Fin 41, ((-10 - nI k.val : Int32).toInt < -3) ∧ (-10 - nI k.val : Int32) < 0 := by decide +kernel
theorem rOut {r : Int32} (h : (∃ k : Nat, k ≤ 40 ∧ r = nI k) ∨ (∃ k : Nat, k < 40 ∧ r = -10 - nI k)) : r.toInt < -3 ∨ -1 < r.toInt := by
  rcases h with ⟨k, hk, rfl⟩ | ⟨k, hk, rfl⟩
  · right; rw [nI_toInt (by omega)]; omega
  · left; exact (m10t ⟨k, by omega⟩).1
theorem rTal1 {r : Int32} (h1 : ¬ r < 0) : 1 = mTal r := by unfold mTal; rw [if_pos h1]
theorem rTal5 {r : Int32} (h : (∃ k : Nat, k ≤ 40 ∧ r = nI k) ∨ (∃ k : Nat, k < 40 ∧ r = -10 - nI k)) (h1 : r < 0) : 5 = mTal r := by
  rcases h with ⟨k, hk, rfl⟩ | ⟨k, hk, rfl⟩
  · exact absurd h1 (nI_pos (by omega))
  · unfold mTal; rw [if_neg (fun q => q h1), if_pos (m10 ⟨k, by omega⟩).2]
/-- a passage between two books of the class -/
def cPassP (s1 s2 : Int32) (n1 n2 : Nat) (V1 V2 : Nat → Int64) (T1 T2 : Nat → Int32) (i j n : Int32) (r : Int32) (V' : Nat → Int64) (T' : Nat → Int32) : Prop :=
  (¬ cHin s1 s2 = 0 ∧ r = cHin s1 s2 ∧ V' = V2 ∧ T' = T2) ∨
  (cHin s1 s2 = 0 ∧ ¬ (cRun n1 i n ∧ cRun n2 j n) ∧ r = -3 ∧ V' = V2 ∧ T' = T2) ∨
  (cHin s1 s2 = 0 ∧ ∃ ii jj nn st : Nat, i = nI ii ∧ j = nI jj ∧ n = nI nn ∧ ii + nn ≤ n1 ∧ jj + nn ≤ n2 ∧ cStop s2 T1 ii nn st ∧ r = (if st < nn then -10 - nI st else nI nn) ∧ V' = va_cpy V1 V2 ii jj st ∧ T' = va_cpy T1 T2 ii jj st)
theorem cRun_nat {n : Nat} {i k : Int32} (hn : n ≤ 40) (h : cRun n i k) : ∃ ii nn : Nat, i = nI ii ∧ k = nI nn ∧ ii + nn ≤ n := by
  obtain ⟨h1, h2, h3⟩ := h
  obtain ⟨ii, hi, rfl⟩ := nI_of h1
  obtain ⟨nn, hnn, rfl⟩ := nI_of h2
  refine ⟨ii, nn, rfl, rfl, ?_⟩
  by_cases q : nn ≤ n
  · rw [pk_sub q, nI_ltI (by omega) hi] at h3; omega
  · exfalso
    apply h3
    have e1 : (nI n - nI nn).toInt = (n : Int) - nn := by
      rw [Int32.toInt_sub, nI_toInt (by omega), nI_toInt hnn]
      have : ((n : Int) - nn).bmod (2 ^ 32) = (n : Int) - nn := by
        apply Int.bmod_eq_of_le <;> omega
      exact this
    rw [Int32.lt_iff_toInt_lt, e1, nI_toInt hi]; omega
theorem cPass_rng {s1 s2 : Int32} {n1 n2 : Nat} {V1 V2 : Nat → Int64} {T1 T2 : Nat → Int32} {i j n r : Int32} {V' : Nat → Int64} {T' : Nat → Int32} (hn : n2 ≤ 40) (h : cPassP s1 s2 n1 n2 V1 V2 T1 T2 i j n r V' T') : rRng r := by
  rcases h with ⟨h1, rfl, -⟩ | ⟨-, -, rfl, -⟩ | ⟨-, ii, jj, nn, st, -, -, -, -, h2, h3, rfl, -⟩
  · unfold cHin at h1 ⊢
    by_cases q : s1 = -1 ∨ s2 = -1
    · rw [if_pos q]; exact Or.inl rfl
    · rw [if_neg q] at h1 ⊢
      by_cases q2 : cAlike s1 s2
      · rw [if_pos q2] at h1; exact absurd rfl h1
      · rw [if_neg q2]; exact Or.inr (Or.inl rfl)
  · exact Or.inr (Or.inr (Or.inl rfl))
  · by_cases hs : st < nn
    · rw [if_pos hs]; exact Or.inr (Or.inr (Or.inr (Or.inr ⟨st, by omega, rfl⟩)))
    · rw [if_neg hs]; exact Or.inr (Or.inr (Or.inr (Or.inl ⟨nn, by omega, rfl⟩)))
/-- the tallies behind a passage -/
def cTl (tl : Nat → Int32) (r : Int32) : Nat → Int32 := upd (upd (upd tl 0 (tl 0 + 1)) (cl (mTal r)) (upd tl 0 (tl 0 + 1) (cl (mTal r)) + 1)) 6 (upd (upd tl 0 (tl 0 + 1)) (cl (mTal r)) (upd tl 0 (tl 0 + 1) (cl (mTal r)) + 1) 6 + mDone r)
/-- a passage in the class's state -/
def cPerfP (cs : CSt) (s a i b j n : Int32) (r : Int32) (cs' : CSt) : Prop := match cs with
  | (dk, (BK, bS, bN, bV, bT, vA, sA), (ink, cop, wai, O), (nx, he, C), tl) =>
    (¬ (isS s ∧ isD a ∧ isD b) ∧ r = -99 ∧ cs' = cs) ∨ ((isS s ∧ isD a ∧ isD b) ∧ ink (cl s) < n ∧ r = -50 ∧ cs' = cs) ∨
    ((isS s ∧ isD a ∧ isD b) ∧ ¬ ink (cl s) < n ∧ ∃ (V' : Nat → Int64) (T' : Nat → Int32), cPassP (bS (dk (cl a))) (bS (dk (cl b))) (bN (dk (cl a))) (bN (dk (cl b))) (bV (dk (cl a))) (bV (dk (cl b))) (bT (dk (cl a))) (bT (dk (cl b))) i j n r V' T' ∧
      cs' = (dk, (BK, bS, bN, va_up bV (dk (cl b)) V', va_up bT (dk (cl b)) T', vA, sA), (upd ink (cl s) (ink (cl s) - mDone r), upd cop (cl s) (cop (cl s) + mDone r), wai, O), ((nx + 1) % 16, (if he + 1 < 16 then he + 1 else 16), cRowp C nx s a b r), cTl tl r))
def cDiff (n1 n2 : Nat) (V1 V2 : Nat → Int64) (T1 T2 : Nat → Int32) (r : Int32) : Prop :=
  (∃ k : Nat, k < n1 ∧ k < n2 ∧ (∀ j, j < k → V1 j = V2 j ∧ T1 j = T2 j) ∧ ¬ (V1 k = V2 k ∧ T1 k = T2 k) ∧ r = nI k) ∨
  ((∀ j, j < n1 → j < n2 → V1 j = V2 j ∧ T1 j = T2 j) ∧ ((n1 = n2 ∧ r = -60) ∨ (n1 < n2 ∧ r = nI n1) ∨ (n2 < n1 ∧ r = nI n2)))
