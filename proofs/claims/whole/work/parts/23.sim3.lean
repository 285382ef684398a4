/-- how an operation leaves both -/
def sOut (Y : Nat → ClassId) (ad : Nat → Nat) (h : PH) (u : MS) (cb : Nat) : Prop := ∃ cs, CRep Y h ad cs ∧ Sim ad cs u cb
section SM3
variable {Y : Nat → ClassId} {h h' : PH} {ad dk : Nat → Nat} {BK : List Nat} {bS : Nat → Int32} {bN : Nat → Nat} {bV : Nat → Nat → Int64} {bT : Nat → Nat → Int32} {vA sA : Nat → Nat} {ink cop : Nat → Int32} {wai : Nat → Nat} {O : Nat → Nat → Ord} {nx he : Nat} {C : Nat → Nat → Int32} {tl : Nat → Int32}
variable {d sc sz : Nat → Int32} {sg : Nat → Int64} {ik cp wt wa ch ct : Nat → Int32} {th : Int32} {u' : MS} {cb : Nat} {p0 p1 p2 p3 p4 p5 r r2 : Int32}
theorem sim_stone (hC : CRep Y h ad (dk, (BK, bS, bN, bV, bT, vA, sA), (ink, cop, wai, O), (nx, he, C), tl)) (hS : Sim ad (dk, (BK, bS, bN, bV, bT, vA, sA), (ink, cop, wai, O), (nx, he, C), tl) (d, sc, sz, sg, ik, cp, wt, wa, ch, ct, th) cb)
    (hx : (isD p0 ∧ r = 0 ∧ CRep Y h' ad (va_up dk (cl p0) (ad 2), (BK, bS, bN, bV, bT, vA, sA), (ink, cop, wai, O), (nx, he, C), tl)) ∨ (¬ isD p0 ∧ r = -99 ∧ h' = h))
    (hm : (isD p0 ∧ r2 = 0 ∧ u' = (upd d (cl p0) (-2), sc, sz, sg, ik, cp, wt, wa, ch, ct, 0)) ∨ (¬ isD p0 ∧ r2 = -99 ∧ u' = (d, sc, sz, sg, ik, cp, wt, wa, ch, ct, 0))) : r = r2 ∧ sOut Y ad h' u' cb := by
  rcases hx with ⟨a, e, hc⟩ | ⟨a, e, rfl⟩ <;> rcases hm with ⟨b, e2, rfl⟩ | ⟨b, e2, rfl⟩
  · exact ⟨e.trans e2.symm, _, hc, hS.1.stone _, hS.2⟩
  · exact absurd a b
  · exact absurd b a
  · exact ⟨e.trans e2.symm, _, hC, hS⟩
theorem sim_clear (hC : CRep Y h ad (dk, (BK, bS, bN, bV, bT, vA, sA), (ink, cop, wai, O), (nx, he, C), tl)) (hS : Sim ad (dk, (BK, bS, bN, bV, bT, vA, sA), (ink, cop, wai, O), (nx, he, C), tl) (d, sc, sz, sg, ik, cp, wt, wa, ch, ct, th) cb)
    (hx : (isD p0 ∧ r = 0 ∧ CRep Y h' ad (va_up dk (cl p0) (ad 1), (BK, bS, bN, bV, bT, vA, sA), (ink, cop, wai, O), (nx, he, C), tl)) ∨ (¬ isD p0 ∧ r = -99 ∧ h' = h))
    (hm : (isD p0 ∧ r2 = 0 ∧ u' = (upd d (cl p0) (-1), sc, sz, sg, ik, cp, wt, wa, ch, ct, 0)) ∨ (¬ isD p0 ∧ r2 = -99 ∧ u' = (d, sc, sz, sg, ik, cp, wt, wa, ch, ct, 0))) : r = r2 ∧ sOut Y ad h' u' cb := by
  rcases hx with ⟨a, e, hc⟩ | ⟨a, e, rfl⟩ <;> rcases hm with ⟨b, e2, rfl⟩ | ⟨b, e2, rfl⟩
  · exact ⟨e.trans e2.symm, _, hc, hS.1.clear _, hS.2⟩
  · exact absurd a b
  · exact absurd b a
  · exact ⟨e.trans e2.symm, _, hC, hS⟩
theorem sim_share (hC : CRep Y h ad (dk, (BK, bS, bN, bV, bT, vA, sA), (ink, cop, wai, O), (nx, he, C), tl)) (hS : Sim ad (dk, (BK, bS, bN, bV, bT, vA, sA), (ink, cop, wai, O), (nx, he, C), tl) (d, sc, sz, sg, ik, cp, wt, wa, ch, ct, th) cb)
    (hx : (isD p0 ∧ isD p1 ∧ r = 0 ∧ CRep Y h' ad (va_up dk (cl p1) (dk (cl p0)), (BK, bS, bN, bV, bT, vA, sA), (ink, cop, wai, O), (nx, he, C), tl)) ∨ (¬ (isD p0 ∧ isD p1) ∧ r = -99 ∧ h' = h))
    (hm : (isD p0 ∧ isD p1 ∧ r2 = 0 ∧ u' = (upd d (cl p1) (d (cl p0)), sc, sz, sg, ik, cp, wt, wa, ch, ct, 0)) ∨ (¬ (isD p0 ∧ isD p1) ∧ r2 = -99 ∧ u' = (d, sc, sz, sg, ik, cp, wt, wa, ch, ct, 0))) : r = r2 ∧ sOut Y ad h' u' cb := by
  rcases hx with ⟨a, a2, e, hc⟩ | ⟨a, e, rfl⟩ <;> rcases hm with ⟨b, b2, e2, rfl⟩ | ⟨b, e2, rfl⟩
  · exact ⟨e.trans e2.symm, _, hc, hS.1.share a.lt _, hS.2⟩
  · exact absurd ⟨a, a2⟩ b
  · exact absurd ⟨b, b2⟩ a
  · exact ⟨e.trans e2.symm, _, hC, hS⟩
theorem le_nlt {a b : Int32} : a ≤ b ↔ ¬ b < a := Int32.not_lt.symm
theorem sim_bind (hC : CRep Y h ad (dk, (BK, bS, bN, bV, bT, vA, sA), (ink, cop, wai, O), (nx, he, C), tl)) (hS : Sim ad (dk, (BK, bS, bN, bV, bT, vA, sA), (ink, cop, wai, O), (nx, he, C), tl) (d, sc, sz, sg, ik, cp, wt, wa, ch, ct, th) cb)
    (hx : ((isD p0 ∧ ¬ p1 < 0 ∧ p1 ≤ 8 ∧ ¬ p2 < 0 ∧ p2 ≤ 40) ∧ r = 0 ∧ ∃ b v so, b ∉ BK ∧ CRep Y h' ad (va_up dk (cl p0) b, (b :: BK, va_up bS b p1, va_up bN b (cl p2), va_up bV b (fun _ => 0), va_up bT b (fun _ => 0), va_up vA b v, va_up sA b so), (ink, cop, wai, O), (nx, he, C), upd tl 7 (tl 7 + 1))) ∨ (¬ (isD p0 ∧ ¬ p1 < 0 ∧ p1 ≤ 8 ∧ ¬ p2 < 0 ∧ p2 ≤ 40) ∧ r = -99 ∧ h' = h))
    (hm : mBindP (d, sc, sz, sg, ik, cp, wt, wa, ch, ct, th) p0 p1 p2 r2 u') : r = r2 ∧ sOut Y ad h' u' cb := by
  obtain ⟨hD, hSS, hT, hH⟩ := hS
  rcases hx with ⟨a, e, b, v, so, nb, hc⟩ | ⟨a, e, rfl⟩ <;> rcases hm with ⟨m1, e2, k, hk, hu, rfl⟩ | ⟨m1, e2, rfl⟩
  · obtain ⟨-, ⟨g, -, hg⟩, -, hn, -⟩ := hC
    obtain ⟨i, hi, ei⟩ := a.1.nat
    obtain ⟨n, hn9, en⟩ := vp_in_of (in_le (n := 41) (M := 40) rfl a.2.2.2.1 a.2.2.2.2) (by decide)
    have ci : cl p0 = i := by rw [ei]; exact cl_nI (by omega)
    have cn : cl p2 = n := by rw [en]; exact cl_nI (by omega)
    refine ⟨e.trans e2.symm, _, hc, ?_, hSS, ?_, ?_⟩
    · rw [ci, cn]
      exact hD.bind (fun j hj => (hg j hj).2) hn.2.2.2.2.2.2.2.1 hn.2.2.2.2.2.2.2.2 nb hi hk (by rw [← ei]; exact hu) a.2.1 a.2.2.1 (by omega) en
    · intro j hj
      have := hT j hj
      have h7 := hT 7 (by decide)
      by_cases q : j = 7
      · subst q; rw [pk_us, pk_us, h7]
      · rw [pk_un q, pk_un q]; exact this
    · obtain ⟨⟨c0, k1, k2, k3, k4⟩, k5⟩ := hH
      exact ⟨⟨c0, by rw [pk_un (by decide)]; exact k1, k2, k3, k4⟩, k5⟩
  · exact absurd ⟨a.1, a.2.1, Int32.not_lt.mpr a.2.2.1, a.2.2.2.1, a.2.2.2.2⟩ m1
  · exact absurd ⟨m1.1, m1.2.1, Int32.not_lt.mp m1.2.2.1, m1.2.2.2.1, m1.2.2.2.2⟩ a
  · exact ⟨e.trans e2.symm, _, hC, hD, hSS, hT, hH⟩
/-- what is on a book's desk, for both -/
theorem sim_fill (hC : CRep Y h ad (dk, (BK, bS, bN, bV, bT, vA, sA), (ink, cop, wai, O), (nx, he, C), tl)) (hS : Sim ad (dk, (BK, bS, bN, bV, bT, vA, sA), (ink, cop, wai, O), (nx, he, C), tl) (d, sc, sz, sg, ik, cp, wt, wa, ch, ct, th) cb)
    (hx : ((isS p0 ∧ ¬ p1 < 0 ∧ p1 ≤ 1000) ∧ r = mFil (ink (cl p0) + p1) ∧ CRep Y h' ad (dk, (BK, bS, bN, bV, bT, vA, sA), (upd ink (cl p0) (mFil (ink (cl p0) + p1)), upd cop (cl p0) (cop (cl p0)), wai, O), (nx, he, C), tl)) ∨ (¬ (isS p0 ∧ ¬ p1 < 0 ∧ p1 ≤ 1000) ∧ r = -99 ∧ h' = h))
    (hm : ((isS p0 ∧ ¬ p1 < 0 ∧ p1 ≤ 1000) ∧ r2 = mFil (ik (cl p0) + p1) ∧ u' = (d, sc, sz, sg, upd ik (cl p0) (mFil (ik (cl p0) + p1)), cp, wt, wa, ch, ct, 0)) ∨ (¬ (isS p0 ∧ ¬ p1 < 0 ∧ p1 ≤ 1000) ∧ r2 = -99 ∧ u' = (d, sc, sz, sg, ik, cp, wt, wa, ch, ct, 0))) : r = r2 ∧ sOut Y ad h' u' cb := by
  obtain ⟨hD, hSS, hT, hH⟩ := hS
  rcases hx with ⟨a, e, hc⟩ | ⟨a, e, rfl⟩ <;> rcases hm with ⟨b, e2, rfl⟩ | ⟨b, e2, rfl⟩
  · have hi := (hSS _ a.1.lt).1
    refine ⟨by rw [e, e2, hi], _, hc, hD, fun s hs => ?_, hT, hH⟩
    obtain ⟨q1, q2, q3, q4, q5⟩ := hSS s hs
    by_cases z : s = cl p0
    · subst z; rw [pk_us, pk_us, pk_us, hi]; exact ⟨rfl, q2, q3, q4, q5⟩
    · rw [pk_un z, pk_un z, pk_un z]; exact ⟨q1, q2, q3, q4, q5⟩
  · exact absurd a b
  · exact absurd b a
  · exact ⟨e.trans e2.symm, _, hC, hD, hSS, hT, hH⟩
theorem le2 {p : Int32} : (¬ p < 0 ∧ p ≤ 2) ↔ (p = 0 ∨ p = 1 ∨ p = 2) := by
  constructor
  · rintro ⟨a, b⟩
    obtain ⟨k, hk, rfl⟩ := nI_of2 (M := 2) (n := 2) rfl a b
    rcases (show k = 0 ∨ k = 1 ∨ k = 2 by omega) with rfl | rfl | rfl
    · exact Or.inl rfl
    · exact Or.inr (Or.inl rfl)
    · exact Or.inr (Or.inr rfl)
  · rintro (rfl | rfl | rfl) <;> decide
theorem sim_scribe (hC : CRep Y h ad (dk, (BK, bS, bN, bV, bT, vA, sA), (ink, cop, wai, O), (nx, he, C), tl)) (hS : Sim ad (dk, (BK, bS, bN, bV, bT, vA, sA), (ink, cop, wai, O), (nx, he, C), tl) (d, sc, sz, sg, ik, cp, wt, wa, ch, ct, th) cb)
    (hx : h' = h ∧ ((isS p0 ∧ p1 = 0 ∧ r = ink (cl p0)) ∨ (isS p0 ∧ p1 = 1 ∧ r = nI (wai (cl p0))) ∨ (isS p0 ∧ p1 = 2 ∧ r = cop (cl p0)) ∨ (¬ (isS p0 ∧ (p1 = 0 ∨ p1 = 1 ∨ p1 = 2)) ∧ r = -99)))
    (hm : ((isS p0 ∧ ¬ p1 < 0 ∧ p1 ≤ 2) ∧ r2 = (if p1 = 0 then ik (cl p0) else if p1 = 1 then wa (cl p0) else cp (cl p0)) ∧ u' = (d, sc, sz, sg, ik, cp, wt, wa, ch, ct, 0)) ∨ (¬ (isS p0 ∧ ¬ p1 < 0 ∧ p1 ≤ 2) ∧ r2 = -99 ∧ u' = (d, sc, sz, sg, ik, cp, wt, wa, ch, ct, 0))) : r = r2 ∧ sOut Y ad h' u' cb := by
  obtain ⟨rfl, hx⟩ := hx
  obtain ⟨hD, hSS, hT, hH⟩ := hS
  have fin : ∀ u9, u9 = (d, sc, sz, sg, ik, cp, wt, wa, ch, ct, (0 : Int32)) → sOut Y ad h' u9 cb := fun u9 e => by rw [e]; exact ⟨_, hC, hD, hSS, hT, hH⟩
  rcases hm with ⟨m1, e2, e3⟩ | ⟨m1, e2, e3⟩
  · obtain ⟨q1, q2, q3, -⟩ := hSS _ m1.1.lt
    refine ⟨?_, fin _ e3⟩
    rcases hx with ⟨-, rfl, e⟩ | ⟨-, rfl, e⟩ | ⟨-, rfl, e⟩ | ⟨n, -⟩
    · rw [e, e2, if_pos rfl, q1]
    · rw [e, e2, if_neg (by decide), if_pos rfl, q3]
    · rw [e, e2, if_neg (by decide), if_neg (by decide), q2]
    · exact absurd ⟨m1.1, le2.mp m1.2⟩ n
  · refine ⟨?_, fin _ e3⟩
    rcases hx with ⟨a, rfl, -⟩ | ⟨a, rfl, -⟩ | ⟨a, rfl, -⟩ | ⟨-, e⟩
    · exact absurd ⟨a, by decide⟩ m1
    · exact absurd ⟨a, by decide⟩ m1
    · exact absurd ⟨a, by decide⟩ m1
    · rw [e, e2]
theorem sim_count (hC : CRep Y h ad (dk, (BK, bS, bN, bV, bT, vA, sA), (ink, cop, wai, O), (nx, he, C), tl)) (hS : Sim ad (dk, (BK, bS, bN, bV, bT, vA, sA), (ink, cop, wai, O), (nx, he, C), tl) (d, sc, sz, sg, ik, cp, wt, wa, ch, ct, th) cb)
    (hx : h' = h ∧ (((¬ p0 < 0 ∧ ¬ 8 ≤ p0) ∧ r = tl (cl p0)) ∨ (¬ (¬ p0 < 0 ∧ ¬ 8 ≤ p0) ∧ r = -99)))
    (hm : ((¬ p0 < 0 ∧ p0 ≤ 7) ∧ r2 = ct (cl p0) ∧ u' = (d, sc, sz, sg, ik, cp, wt, wa, ch, ct, 0)) ∨ (¬ (¬ p0 < 0 ∧ p0 ≤ 7) ∧ r2 = -99 ∧ u' = (d, sc, sz, sg, ik, cp, wt, wa, ch, ct, 0))) : r = r2 ∧ sOut Y ad h' u' cb := by
  obtain ⟨rfl, hx⟩ := hx
  obtain ⟨hD, hSS, hT, hH⟩ := hS
  have fin : ∀ u9, u9 = (d, sc, sz, sg, ik, cp, wt, wa, ch, ct, (0 : Int32)) → sOut Y ad h' u9 cb := fun u9 e => by rw [e]; exact ⟨_, hC, hD, hSS, hT, hH⟩
  have e78 : ¬ 8 ≤ p0 ↔ p0 ≤ 7 := by rw [Int32.le_iff_toInt_le, Int32.le_iff_toInt_le, show (8 : Int32).toInt = 8 from rfl, show (7 : Int32).toInt = 7 from rfl]; omega
  rcases hx with ⟨a, e⟩ | ⟨a, e⟩ <;> rcases hm with ⟨b, e2, e3⟩ | ⟨b, e2, e3⟩
  · refine ⟨?_, fin _ e3⟩
    obtain ⟨k, hk, ek⟩ := vp_in_of (in_le (n := 8) (M := 7) rfl b.1 b.2) (by decide)
    have : cl p0 = k := by rw [ek]; exact cl_nI (by omega)
    rw [e, e2, this]; exact hT k hk
  · exact absurd ⟨a.1, e78.mp a.2⟩ b
  · exact absurd ⟨b.1, e78.mpr b.2⟩ a
  · exact ⟨e.trans e2.symm, fin _ e3⟩
theorem le3 {p : Int32} : (¬ p < 0 ∧ p ≤ 3) ↔ (p = 0 ∨ p = 1 ∨ p = 2 ∨ p = 3) := by
  constructor
  · rintro ⟨a, b⟩
    obtain ⟨k, hk, rfl⟩ := nI_of2 (M := 3) (n := 3) rfl a b
    rcases (show k = 0 ∨ k = 1 ∨ k = 2 ∨ k = 3 by omega) with rfl | rfl | rfl | rfl
    · exact Or.inl rfl
    · exact Or.inr (Or.inl rfl)
    · exact Or.inr (Or.inr (Or.inl rfl))
    · exact Or.inr (Or.inr (Or.inr rfl))
  · rintro (rfl | rfl | rfl | rfl) <;> decide
theorem sim_chronicle (hC : CRep Y h ad (dk, (BK, bS, bN, bV, bT, vA, sA), (ink, cop, wai, O), (nx, he, C), tl)) (hcb : cb < 2 ^ 30) (hS : Sim ad (dk, (BK, bS, bN, bV, bT, vA, sA), (ink, cop, wai, O), (nx, he, C), tl) (d, sc, sz, sg, ik, cp, wt, wa, ch, ct, th) cb)
    (hx : h' = h ∧ ((∃ k w : Nat, p0 = nI k ∧ p1 = nI w ∧ k < he ∧ w < 4 ∧ r = C w ((nx + 31 - k) % 16)) ∨ (¬ ((¬ p0 < 0 ∧ ¬ nI he ≤ p0) ∧ (p1 = 0 ∨ p1 = 1 ∨ p1 = 2 ∨ p1 = 3)) ∧ r = -99)))
    (hm : ((¬ p0 < 0 ∧ ¬ 16 ≤ p0 ∧ ¬ ct 0 ≤ p0 ∧ ¬ p1 < 0 ∧ p1 ≤ 3) ∧ r2 = ch (cl (4 * mRow ct p0 + p1)) ∧ u' = (d, sc, sz, sg, ik, cp, wt, wa, ch, ct, 0)) ∨ (¬ (¬ p0 < 0 ∧ ¬ 16 ≤ p0 ∧ ¬ ct 0 ≤ p0 ∧ ¬ p1 < 0 ∧ p1 ≤ 3) ∧ r2 = -99 ∧ u' = (d, sc, sz, sg, ik, cp, wt, wa, ch, ct, 0))) : r = r2 ∧ sOut Y ad h' u' cb := by
  obtain ⟨rfl, hx⟩ := hx
  obtain ⟨hD, hSS, hT, hH⟩ := hS
  have fin : ∀ u9, u9 = (d, sc, sz, sg, ik, cp, wt, wa, ch, ct, (0 : Int32)) → sOut Y ad h' u9 cb := fun u9 e => by rw [e]; exact ⟨_, hC, hD, hSS, hT, hH⟩
  obtain ⟨⟨c0, k1, k2, k3, k4⟩, k5⟩ := hH
  have kk : ∀ k : Nat, k < 2 ^ 31 → ((¬ 16 ≤ nI k ∧ ¬ ct 0 ≤ nI k) ↔ k < he) := fun k hk => by
    rw [k1, show (16 : Int32) = nI 16 from rfl, nI_leI (by omega) hk, nI_leI (by omega) hk, k4]
    by_cases q : c0 < 16
    · rw [if_pos q]; omega
    · rw [if_neg q]; omega
  rcases hx with ⟨k, w, rfl, rfl, hk, hw, e⟩ | ⟨a, e⟩ <;> rcases hm with ⟨b, e2, e3⟩ | ⟨b, e2, e3⟩
  · refine ⟨?_, fin _ e3⟩
    have hk0 : k < c0 ∧ k < 16 := by
      rw [k4] at hk
      by_cases q : c0 < 16
      · rw [if_pos q] at hk; omega
      · rw [if_neg q] at hk; omega
    rw [e, e2, mRow_nat (c0 := c0) ⟨k1, by omega⟩ hk0.1, show (4 : Int32) = nI 4 from rfl, pk_mul, nI_add, cl_nI (by omega), k5 w _ hw (by omega), k3]
    congr 1; omega
  · refine absurd ⟨nI_pos ?_, ((kk k ?_).mpr hk).1, ((kk k ?_).mpr hk).2, (le3.mpr ?_)⟩ b
    · rw [k4] at hk
      by_cases q : c0 < 16
      · rw [if_pos q] at hk; omega
      · rw [if_neg q] at hk; omega
    · rw [k4] at hk
      by_cases q : c0 < 16
      · rw [if_pos q] at hk; omega
      · rw [if_neg q] at hk; omega
    · rw [k4] at hk
      by_cases q : c0 < 16
      · rw [if_pos q] at hk; omega
      · rw [if_neg q] at hk; omega
    · rcases (show w = 0 ∨ w = 1 ∨ w = 2 ∨ w = 3 by omega) with rfl | rfl | rfl | rfl
      · exact Or.inl rfl
      · exact Or.inr (Or.inl rfl)
      · exact Or.inr (Or.inr (Or.inl rfl))
      · exact Or.inr (Or.inr (Or.inr rfl))
  · exfalso
    obtain ⟨b1, b2, b3, b4⟩ := b
    obtain ⟨k, hk, rfl⟩ := nI_of b1
    have hke := (kk k hk).mp ⟨b2, b3⟩
    exact a ⟨⟨b1, nI_ge hke (by rw [k4]; split <;> omega)⟩, le3.mp b4⟩
  · exact ⟨e.trans e2.symm, fin _ e3⟩
theorem sim_book (hC : CRep Y h ad (dk, (BK, bS, bN, bV, bT, vA, sA), (ink, cop, wai, O), (nx, he, C), tl)) (hS : Sim ad (dk, (BK, bS, bN, bV, bT, vA, sA), (ink, cop, wai, O), (nx, he, C), tl) (d, sc, sz, sg, ik, cp, wt, wa, ch, ct, th) cb)
    (hx : h' = h ∧ (((isD p0 ∧ ¬ p1 < 0 ∧ p1 ≤ 1) ∧ r = (if p1 = 0 ∨ bS (dk (cl p0)) < 0 then bS (dk (cl p0)) else nI (bN (dk (cl p0))))) ∨ (¬ (isD p0 ∧ ¬ p1 < 0 ∧ p1 ≤ 1) ∧ r = -99)))
    (hm : ((isD p0 ∧ ¬ p1 < 0 ∧ p1 ≤ 1) ∧ r2 = (if 0 ≤ d (cl p0) then (if p1 = 0 then sc (cl (d (cl p0))) else sz (cl (d (cl p0)))) else d (cl p0)) ∧ u' = (d, sc, sz, sg, ik, cp, wt, wa, ch, ct, 0)) ∨ (¬ (isD p0 ∧ ¬ p1 < 0 ∧ p1 ≤ 1) ∧ r2 = -99 ∧ u' = (d, sc, sz, sg, ik, cp, wt, wa, ch, ct, 0))) : r = r2 ∧ sOut Y ad h' u' cb := by
  obtain ⟨rfl, hx⟩ := hx
  obtain ⟨hD, hSS, hT, hH⟩ := hS
  have fin : ∀ u9, u9 = (d, sc, sz, sg, ik, cp, wt, wa, ch, ct, (0 : Int32)) → sOut Y ad h' u9 cb := fun u9 e => by rw [e]; exact ⟨_, hC, hD, hSS, hT, hH⟩
  rcases hx with ⟨a, e⟩ | ⟨a, e⟩ <;> rcases hm with ⟨b, e2, e3⟩ | ⟨b, e2, e3⟩
  · refine ⟨?_, fin _ e3⟩
    by_cases q : d (cl p0) < 0
    · rw [e, e2, if_pos (Or.inr ((hD.sneg a.1.lt).mpr q)), if_neg (Int32.not_le.mpr q), hD.neg a.1.lt q]
    · obtain ⟨k, hk, f, -, -, B⟩ := hD.pos a.1.lt q
      rw [e, e2, if_pos (Int32.not_lt.mp q)]
      by_cases z : p1 = 0
      · rw [if_pos (Or.inl z), if_pos z, f, cl_nI (by omega), B.1]
      · rw [if_neg (fun y => y.elim z B.2.1), if_neg z, f, cl_nI (by omega), B.2.2.2.1]
  · exact absurd a b
  · exact absurd b a
  · exact ⟨e.trans e2.symm, fin _ e3⟩
theorem sim_differ (hC : CRep Y h ad (dk, (BK, bS, bN, bV, bT, vA, sA), (ink, cop, wai, O), (nx, he, C), tl)) (hS : Sim ad (dk, (BK, bS, bN, bV, bT, vA, sA), (ink, cop, wai, O), (nx, he, C), tl) (d, sc, sz, sg, ik, cp, wt, wa, ch, ct, th) cb)
    (hx : h' = h ∧ ((¬ (isD p0 ∧ isD p1) ∧ r = -99) ∨ ((isD p0 ∧ isD p1) ∧ ¬ cHin (bS (dk (cl p0))) (bS (dk (cl p1))) = 0 ∧ r = cHin (bS (dk (cl p0))) (bS (dk (cl p1)))) ∨ ((isD p0 ∧ isD p1) ∧ cHin (bS (dk (cl p0))) (bS (dk (cl p1))) = 0 ∧ cDiff (bN (dk (cl p0))) (bN (dk (cl p1))) (bV (dk (cl p0))) (bV (dk (cl p1))) (bT (dk (cl p0))) (bT (dk (cl p1))) r)))
    (hm : mDifferP (d, sc, sz, sg, ik, cp, wt, wa, ch, ct, th) p0 p1 r2 u') : r = r2 ∧ sOut Y ad h' u' cb := by
  obtain ⟨rfl, hx⟩ := hx
  obtain ⟨hD, hSS, hT, hH⟩ := hS
  obtain ⟨rfl, hm⟩ := hm
  refine ⟨?_, _, hC, hD, hSS, hT, hH⟩
  rcases hx with ⟨a, e⟩ | ⟨a, a2, e⟩ | ⟨a, a2, e⟩
  · rcases hm with ⟨b, e2⟩ | ⟨b, -⟩ | ⟨b, -⟩
    · rw [e, e2]
    · exact absurd b a
    · exact absurd b a
  · have he := hin_eq hD a.1 a.2
    rcases hm with ⟨b, e2⟩ | ⟨b, b2, e2⟩ | ⟨b, b2, -⟩
    · exact absurd a b
    · rw [e, e2, he]
    · exact absurd (he.trans b2) a2
  · have he := hin_eq hD a.1 a.2
    rcases hm with ⟨b, e2⟩ | ⟨b, b2, e2⟩ | ⟨b, b2, b1', b2', n1, n2, hb1, hb2, g1, g2, g3, g4, g5, g6, g7⟩
    · exact absurd a b
    · exact absurd (he.symm.trans a2) b2
    · have al := cHin_0 a2
      have p1' : ¬ d (cl p0) < 0 := by rw [g1]; exact nI_pos (by omega)
      have p2' : ¬ d (cl p1) < 0 := by rw [g2]; exact nI_pos (by omega)
      obtain ⟨k1, hk1, f1, -, -, B1⟩ := hD.pos a.1.lt p1'
      obtain ⟨k2, hk2, f2, -, -, B2⟩ := hD.pos a.2.lt p2'
      obtain rfl : k1 = b1' := (nI_eq (by omega) (by omega)).mp (f1.symm.trans g1)
      obtain rfl : k2 = b2' := (nI_eq (by omega) (by omega)).mp (f2.symm.trans g2)
      have w1 : bN (dk (cl p0)) = n1 := (nI_eq (by have := B1.2.2.2.2.1; omega) (by omega)).mp (B1.2.2.2.1.symm.trans g3)
      have w2 : bN (dk (cl p1)) = n2 := (nI_eq (by have := B2.2.2.2.2.1; omega) (by omega)).mp (B2.2.2.2.1.symm.trans g4)
      have key : ∀ j, j < n1 → j < n2 → (sg (40 * k1 + j) = sg (40 * k2 + j) ↔ (bV (dk (cl p0)) j = bV (dk (cl p1)) j ∧ bT (dk (cl p0)) j = bT (dk (cl p1)) j)) := fun j h1 h2 =>
        (B1.2.2.2.2.2 j (by omega)).eq (B2.2.2.2.2.2 j (by omega)) al.2
      rw [w1, w2] at e
      rcases e with ⟨k, q1, q2, q3, q4, e⟩ | ⟨q3, e⟩
      · rcases g7 with ⟨k', z1, z2, z3, z4, e2⟩ | ⟨z3, -⟩
        · have : k = k' := by
            rcases Nat.lt_trichotomy k k' with q | q | q
            · exact absurd ((key k q1 q2).mp (z3 k q)) q4
            · exact q
            · exact absurd ((key k' z1 z2).mpr (q3 k' q)) z4
          rw [e, e2, this]
        · exact absurd ((key k q1 q2).mp (z3 k q1 q2)) q4
      · rcases g7 with ⟨k', z1, z2, z3, z4, e2⟩ | ⟨-, e2⟩
        · exact absurd ((key k' z1 z2).mpr (q3 k' z1 z2)) z4
        · rcases e with ⟨y, e⟩ | ⟨y, e⟩ | ⟨y, e⟩ <;> rcases e2 with ⟨y2, e2⟩ | ⟨y2, e2⟩ | ⟨y2, e2⟩
          · rw [e, e2]
          · omega
          · omega
          · omega
          · rw [e, e2]
          · omega
          · omega
          · omega
          · rw [e, e2]
end SM3
