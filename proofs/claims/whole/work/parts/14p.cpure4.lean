def cWriteP (Y : Nat → ClassId) (h h' : PH) (ad : Nat → Nat) (cs : CSt) (p0 p1 p2 : Int32) (v : Int64) (r : Int32) : Prop := match cs with
  | (dk, (BK, bS, bN, bV, bT, vA, sA), (ink, cop, wai, O), (nx, he, C), tl) =>
    (¬ isD p0 ∧ r = -99 ∧ h' = h) ∨
    (isD p0 ∧ (6 ≤ bS (dk (cl p0)) ∧ ¬ (¬ p2 < 0 ∧ p2 ≤ 2)) ∧ r = -99 ∧ h' = h) ∨
    (isD p0 ∧ bS (dk (cl p0)) < 0 ∧ r = bS (dk (cl p0)) ∧ h' = h) ∨
    (isD p0 ∧ ¬ bS (dk (cl p0)) < 0 ∧ (6 ≤ bS (dk (cl p0)) → ¬ p2 < 0 ∧ p2 ≤ 2) ∧ ¬ (¬ p1 < 0 ∧ ¬ nI (bN (dk (cl p0))) ≤ p1) ∧ r = -3 ∧ h' = h) ∨
    (isD p0 ∧ ¬ bS (dk (cl p0)) < 0 ∧ (¬ p2 < 0 ∧ p2 ≤ 2) ∧ (¬ p1 < 0 ∧ ¬ nI (bN (dk (cl p0))) ≤ p1) ∧ 6 ≤ bS (dk (cl p0)) ∧ ¬ cAdm (bS (dk (cl p0))) p2 ∧ r = -10 ∧ h' = h) ∨
    (isD p0 ∧ ¬ bS (dk (cl p0)) < 0 ∧ (¬ p2 < 0 ∧ p2 ≤ 2) ∧ (¬ p1 < 0 ∧ ¬ nI (bN (dk (cl p0))) ≤ p1) ∧ 6 ≤ bS (dk (cl p0)) ∧ cAdm (bS (dk (cl p0))) p2 ∧ r = 0 ∧ CRep Y h' ad (dk, (BK, bS, bN, va_up bV (dk (cl p0)) (vp_updL (bV (dk (cl p0))) (cl p1) (if p2 = 0 then 0 else v.toInt32.toInt64)), va_up bT (dk (cl p0)) (upd (bT (dk (cl p0))) (cl p1) p2), vA, sA), (ink, cop, wai, O), (nx, he, C), tl)) ∨
    (isD p0 ∧ ¬ bS (dk (cl p0)) < 0 ∧ (¬ p1 < 0 ∧ ¬ nI (bN (dk (cl p0))) ≤ p1) ∧ ¬ 6 ≤ bS (dk (cl p0)) ∧ r = 0 ∧ CRep Y h' ad (dk, (BK, bS, bN, va_up bV (dk (cl p0)) (vp_updL (bV (dk (cl p0))) (cl p1) (cCut (bS (dk (cl p0))) v)), va_up bT (dk (cl p0)) (bT (dk (cl p0))), vA, sA), (ink, cop, wai, O), (nx, he, C), tl))
theorem inPl {n : Nat} {p : Int32} (hn : n ≤ 40) (h1 : ¬ p < 0) (h2 : ¬ nI n ≤ p) : vp_in p n := by
  obtain ⟨k, hk, rfl⟩ := nI_of h1
  rw [nI_leI (by omega) hk] at h2
  exact vp_in_nI (by omega) (by omega)
def cDayStep (s : Nat) (cs cs' : CSt) (i : Nat) : Prop := match cs with
  | (dk, bs, (ink, cop, wai, O), hs, tl) =>
    (wai s = 0 ∧ cs' = cs ∧ i = 0) ∨
    (0 < wai s ∧ ∃ (r : Int32) (cs1 : CSt), cPerfP cs (nI s) (O s 0).1 (O s 0).2.1 (O s 0).2.2.1 (O s 0).2.2.2.1 (O s 0).2.2.2.2 r cs1 ∧
      ((r = -50 ∧ cs' = cs1 ∧ i = 0) ∨ (¬ r = -50 ∧ i = 1 ∧ match cs1 with
        | (dk1, bs1, (ink1, cop1, wai1, O1), hs1, tl1) => cs' = (dk1, bs1, (ink1, cop1, va_up wai1 s (wai s - 1), va_up O1 s (fun k => O s (k + 1))), hs1, tl1))))
def cDayN : Nat → CSt → CSt → Nat → Prop
  | 0, cs, cs', n => cs' = cs ∧ n = 0
  | k + 1, cs, cs', n => ∃ (cs1 : CSt) (n1 i : Nat), cDayN k cs cs1 n1 ∧ cDayStep k cs1 cs' i ∧ n = n1 + i
theorem cPerf_keep {dk : Nat → Nat} {BK : List Nat} {bS : Nat → Int32} {bN : Nat → Nat} {bV : Nat → Nat → Int64} {bT : Nat → Nat → Int32} {vA sA : Nat → Nat} {ink cop : Nat → Int32} {wai : Nat → Nat} {O : Nat → Nat → Ord} {nx he : Nat} {C : Nat → Nat → Int32} {tl : Nat → Int32} {s a i b j n r : Int32} {cs' : CSt}
    (h : cPerfP (dk, (BK, bS, bN, bV, bT, vA, sA), (ink, cop, wai, O), (nx, he, C), tl) s a i b j n r cs') : ∃ (bV' : Nat → Nat → Int64) (bT' : Nat → Nat → Int32) (ink' cop' : Nat → Int32) (nx' he' : Nat) (C' : Nat → Nat → Int32) (tl' : Nat → Int32), cs' = (dk, (BK, bS, bN, bV', bT', vA, sA), (ink', cop', wai, O), (nx', he', C'), tl') := by
  rcases h with ⟨-, -, rfl⟩ | ⟨-, -, -, rfl⟩ | ⟨-, -, V', T', -, rfl⟩
  · exact ⟨_, _, _, _, _, _, _, _, rfl⟩
  · exact ⟨_, _, _, _, _, _, _, _, rfl⟩
  · exact ⟨_, _, _, _, _, _, _, _, rfl⟩
