theorem va_up_same {α : Type} (f : Nat → α) (k : Nat) : va_up f k (f k) = f := by
  funext j
  by_cases e : j = k
  · rw [e, va_up_self]
  · rw [va_up_ne _ _ e]
section CPM
variable {Y : Nat → ClassId} {h h' : PH} {ad dk : Nat → Nat} {BK : List Nat} {bS : Nat → Int32} {bN : Nat → Nat} {bV : Nat → Nat → Int64} {bT : Nat → Nat → Int32} {vA sA : Nat → Nat} {ink cop : Nat → Int32} {wai : Nat → Nat} {O : Nat → Nat → Ord} {nx he : Nat} {C : Nat → Nat → Int32} {tl : Nat → Int32}
theorem CRep.pass (H : CRep Y h ad (dk, (BK, bS, bN, bV, bT, vA, sA), (ink, cop, wai, O), (nx, he, C), tl)) {o b : Nat} (hb : b ∈ BK) {pi pj pn r : Int32}
    (hp : (¬ cHin (bS o) (bS b) = 0 ∧ r = cHin (bS o) (bS b) ∧ h' = h) ∨ (cHin (bS o) (bS b) = 0 ∧ ¬ (cRun (bN o) pi pn ∧ cRun (bN b) pj pn) ∧ r = -3 ∧ h' = h) ∨ (cHin (bS o) (bS b) = 0 ∧ ∃ ii jj nn st : Nat, pi = nI ii ∧ pj = nI jj ∧ pn = nI nn ∧ ii + nn ≤ bN o ∧ jj + nn ≤ bN b ∧ cStop (bS b) (bT o) ii nn st ∧ r = (if st < nn then -10 - nI st else nI nn) ∧ pFr h h' [vA b, sA b] ∧ pAt h' (vA b) (aJ Y (bN b) (va_cpy (bV o) (bV b) ii jj st)) ∧ pAt h' (sA b) (aI Y (bN b) (va_cpy (bT o) (bT b) ii jj st)))) :
    ∃ (V' : Nat → Int64) (T' : Nat → Int32), cPassP (bS o) (bS b) (bN o) (bN b) (bV o) (bV b) (bT o) (bT b) pi pj pn r V' T' ∧ CRep Y h' ad (dk, (BK, bS, bN, va_up bV b V', va_up bT b T', vA, sA), (ink, cop, wai, O), (nx, he, C), tl) ∧ pFr h h' [vA b, sA b] := by
  rcases hp with ⟨h1, h2, rfl⟩ | ⟨h1, h2, h3, rfl⟩ | ⟨h1, ii, jj, nn, st, e1, e2, e3, h2, h3, h4, h5, f, h6, h7⟩
  · exact ⟨bV b, bT b, Or.inl ⟨h1, h2, rfl, rfl⟩, by rw [va_up_same, va_up_same]; exact H, pFr.rf⟩
  · exact ⟨bV b, bT b, Or.inr (Or.inl ⟨h1, h2, h3, rfl, rfl⟩), by rw [va_up_same, va_up_same]; exact H, pFr.rf⟩
  · exact ⟨_, _, Or.inr (Or.inr ⟨h1, ii, jj, nn, st, e1, e2, e3, h2, h3, h4, h5, rfl, rfl⟩), H.book hb f h6 h7, f⟩
end CPM
theorem mFil_min (x : Int32) : (if x < 1000 then x else 1000) = mFil x := by
  unfold mFil
  by_cases h : x < 1000
  · rw [if_pos h, if_pos (Int32.le_of_lt h)]
  · rw [if_neg h]
    by_cases h2 : x ≤ 1000
    · rw [if_pos h2]; exact Int32.le_antisymm (Int32.not_lt.mp h) h2
    · rw [if_neg h2]
theorem swOut3 {p : Int32} (h0 : ¬ p = 0) (h1 : ¬ p = 1) (h2 : ¬ p = 2) : p.toInt < 0 ∨ 2 < p.toInt := by
  have q0 := lv_neT (k := 0) (a := 0) h0 rfl
  have q1 := lv_neT (k := 1) (a := 1) h1 rfl
  have q2 := lv_neT (k := 2) (a := 2) h2 rfl
  omega
theorem swOut4 {p : Int32} (h0 : ¬ p = 0) (h1 : ¬ p = 1) (h2 : ¬ p = 2) (h3 : ¬ p = 3) : p.toInt < 0 ∨ 3 < p.toInt := by
  have q0 := lv_neT (k := 0) (a := 0) h0 rfl
  have q1 := lv_neT (k := 1) (a := 1) h1 rfl
  have q2 := lv_neT (k := 2) (a := 2) h2 rfl
  have q3 := lv_neT (k := 3) (a := 3) h3 rfl
  omega
