section SM2
variable {ad dk : Nat → Nat} {bS : Nat → Int32} {bN : Nat → Nat} {bV : Nat → Nat → Int64} {bT : Nat → Nat → Int32} {d sc sz : Nat → Int32} {sg : Nat → Int64}
theorem SD.e1 (h : SD ad dk bS bN bV bT d sc sz sg) {i : Nat} (hi : i < 6) : bS (dk i) = -1 ↔ d i = -1 := by
  by_cases hn : d i < 0
  · rw [h.neg hi hn]
  · obtain ⟨k, hk, e, -, -, hB⟩ := h.pos hi hn
    refine ⟨fun q => ?_, fun q => ?_⟩
    · have := hB.2.1; rw [q] at this; exact absurd (by decide) this
    · rw [q] at hn; exact absurd (by decide) hn
/-- what hinders a passage -/
theorem hin_eq (h : SD ad dk bS bN bV bT d sc sz sg) {a b : Int32} (ha : isD a) (hb : isD b) : cHin (bS (dk (cl a))) (bS (dk (cl b))) = mUnl d sc a b := by
  unfold cHin mUnl
  have e1 := h.e1 ha.lt
  have e2 := h.e1 hb.lt
  by_cases q1 : d (cl a) = -1 ∨ d (cl b) = -1
  · rw [if_pos q1, if_pos (q1.elim (fun z => Or.inl (e1.mpr z)) (fun z => Or.inr (e2.mpr z)))]
  · rw [if_neg q1, if_neg (fun z => q1 (z.elim (fun z => Or.inl (e1.mp z)) (fun z => Or.inr (e2.mp z))))]
    by_cases q2 : d (cl a) = -2 ∨ d (cl b) = -2
    · rw [if_pos q2, if_neg]
      rintro ⟨z1, z2⟩
      rcases q2 with q2 | q2
      · exact z1 (by rw [h.neg ha.lt (by rw [q2]; decide), q2]; decide)
      · have z3 : bS (dk (cl b)) = -2 := by rw [h.neg hb.lt (by rw [q2]; decide), q2]
        rw [z3] at z2
        rcases z2 with z2 | z2
        · exact z1 (by rw [z2]; decide)
        · exact absurd z2.2 (by decide)
    · rw [if_neg q2]
      have p1 : ¬ d (cl a) < 0 := by
        rcases h.dOK _ ha.lt with z | z | z
        · exact absurd (Or.inl z) q1
        · exact absurd (Or.inl z) q2
        · exact z.1
      have p2 : ¬ d (cl b) < 0 := by
        rcases h.dOK _ hb.lt with z | z | z
        · exact absurd (Or.inr z) q1
        · exact absurd (Or.inr z) q2
        · exact z.1
      obtain ⟨k1, hk1, f1, -, -, B1⟩ := h.pos ha.lt p1
      obtain ⟨k2, hk2, f2, -, -, B2⟩ := h.pos hb.lt p2
      rw [f1, f2, cl_nI (by omega), cl_nI (by omega), B1.1, B2.1]
      by_cases z : bS (dk (cl a)) = bS (dk (cl b)) ∨ (5 < bS (dk (cl a)) ∧ 5 < bS (dk (cl b)))
      · rw [if_pos z, if_pos ⟨B1.2.1, z.elim Or.inl (fun z => Or.inr ⟨pic6.mpr z.1, pic6.mpr z.2⟩)⟩]
      · rw [if_neg z, if_neg (fun y => z (y.2.elim Or.inl (fun y => Or.inr ⟨pic6.mp y.1, pic6.mp y.2⟩)))]
theorem cHin_0 {s t : Int32} (h : cHin s t = 0) : cAlike s t := by
  unfold cHin at h
  by_cases q : s = -1 ∨ t = -1
  · rw [if_pos q] at h; exact absurd h (by decide)
  · rw [if_neg q] at h
    by_cases q2 : cAlike s t
    · exact q2
    · rw [if_neg q2] at h; exact absurd h (by decide)
theorem fit_iff {i j n : Int32} {n1 n2 : Nat} (h1 : n1 ≤ 40) (h2 : n2 ≤ 40) : mFit i j n (nI n1) (nI n2) ↔ (cRun n1 i n ∧ cRun n2 j n) := by
  constructor
  · intro h
    obtain ⟨ii, jj, nn, rfl, rfl, rfl, e1, e2⟩ := mFit_nat h1 h2 h
    refine ⟨⟨nI_pos (by omega), nI_pos (by omega), ?_⟩, ⟨nI_pos (by omega), nI_pos (by omega), ?_⟩⟩
    · rw [pk_sub (by omega)]; exact nI_nlt (by omega) (by omega)
    · rw [pk_sub (by omega)]; exact nI_nlt (by omega) (by omega)
  · rintro ⟨q1, q2⟩
    obtain ⟨ii, nn, rfl, rfl, e1⟩ := cRun_nat h1 q1
    obtain ⟨jj, nn', rfl, e3, e2⟩ := cRun_nat h2 q2
    have e4 : nn = nn' := (nI_eq (by omega) (by omega)).mp e3
    subst e4
    refine ⟨nI_pos (by omega), nI_pos (by omega), nI_pos (by omega), nI_nlt (by omega) (by omega), nI_nlt (by omega) (by omega), ?_, ?_⟩
    · rw [pk_sub (by omega)]; exact nI_nlt (by omega) (by omega)
    · rw [pk_sub (by omega)]; exact nI_le (by omega) (by omega)
theorem stop_uniq {P Q : Nat → Prop} {nn s t : Nat} (hPQ : ∀ k, k < nn → (P k ↔ ¬ Q k)) (h1 : s ≤ nn) (h2 : ∀ k, k < s → P k) (h3 : s < nn → ¬ P s) (g1 : t ≤ nn) (g2 : ∀ k, k < t → ¬ Q k) (g3 : t < nn → Q t) : s = t := by
  rcases Nat.lt_trichotomy s t with q | q | q
  · exact absurd ((hPQ s (by omega)).mpr (g2 s q)) (h3 (by omega))
  · exact q
  · exact absurd (g3 (by omega)) ((hPQ t (by omega)).mp (h2 t q))
/-- a passage, in both -/
theorem sim_pass (h : SD ad dk bS bN bV bT d sc sz sg) {a b i j n r r2 : Int32} (ha : isD a) (hb : isD b) {V' : Nat → Int64} {T' : Nat → Int32} {sg' : Nat → Int64}
    (hc : cPassP (bS (dk (cl a))) (bS (dk (cl b))) (bN (dk (cl a))) (bN (dk (cl b))) (bV (dk (cl a))) (bV (dk (cl b))) (bT (dk (cl a))) (bT (dk (cl b))) i j n r V' T') (hm : mPassP d sc sz sg a i b j n r2 sg') :
    r = r2 ∧ SD ad dk bS bN (va_up bV (dk (cl b)) V') (va_up bT (dk (cl b)) T') d sc sz sg' := by
  have he := hin_eq h ha hb
  by_cases q0 : mUnl d sc a b = 0
  · have u0 := mUnl_0 q0
    have al := cHin_0 (he.trans q0)
    have p1 : ¬ d (cl a) < 0 := by
      rcases h.dOK _ ha.lt with z | z | z
      · exact absurd z u0.1.1
      · exact absurd z u0.2.1.1
      · exact z.1
    have p2 : ¬ d (cl b) < 0 := by
      rcases h.dOK _ hb.lt with z | z | z
      · exact absurd z u0.1.2
      · exact absurd z u0.2.1.2
      · exact z.1
    obtain ⟨k1, hk1, f1, -, -, B1⟩ := h.pos ha.lt p1
    obtain ⟨k2, hk2, f2, -, -, B2⟩ := h.pos hb.lt p2
    have z1 : sz (cl (d (cl a))) = nI (bN (dk (cl a))) := by rw [f1, cl_nI (by omega)]; exact B1.2.2.2.1
    have z2 : sz (cl (d (cl b))) = nI (bN (dk (cl b))) := by rw [f2, cl_nI (by omega)]; exact B2.2.2.2.1
    have fi := fit_iff (i := i) (j := j) (n := n) B1.2.2.2.2.1 B2.2.2.2.2.1
    rcases hc with ⟨c1, -⟩ | ⟨-, c2, c3, c4, c5⟩ | ⟨-, ii, jj, nn, st, e1, e2, e3, c1, c2, c3, c4, c5, c6⟩
    · exact absurd (he.trans q0) c1
    · rcases hm with ⟨m1, -⟩ | ⟨-, -, m3, m4⟩ | ⟨-, bf, bt, ii, jj, nn, nf, nt, st, hbf, hbt, g1, g2, e1, e2, e3, g3, g4, g5, g6, g7, g8, -⟩
      · exact absurd q0 m1
      · rw [c4, c5, m4, va_up_same, va_up_same]; exact ⟨c3.trans m3.symm, h⟩
      · exfalso
        apply c2
        rw [← fi, e1, e2, e3]
        have w1 : bN (dk (cl a)) = nf := by
          have e9 : k1 = bf := (nI_eq (by omega) (by omega)).mp (f1.symm.trans g1)
          have q9 : nI (bN (dk (cl a))) = nI nf := by rw [← B1.2.2.2.1, e9]; exact g3
          exact (nI_eq (by have := B1.2.2.2.2.1; omega) (by omega)).mp q9
        have w2 : bN (dk (cl b)) = nt := by
          have e9 : k2 = bt := (nI_eq (by omega) (by omega)).mp (f2.symm.trans g2)
          have q9 : nI (bN (dk (cl b))) = nI nt := by rw [← B2.2.2.2.1, e9]; exact g4
          exact (nI_eq (by have := B2.2.2.2.2.1; omega) (by omega)).mp q9
        rw [w1, w2]
        refine ⟨nI_pos (by omega), nI_pos (by omega), nI_pos (by omega), nI_nlt (by omega) (by omega), nI_nlt (by omega) (by omega), ?_, ?_⟩
        · rw [pk_sub (by omega)]; exact nI_nlt (by omega) (by omega)
        · rw [pk_sub (by omega)]; exact nI_le (by omega) (by omega)
    · have l1 := B1.2.2.2.2.1
      have l2 := B2.2.2.2.2.1
      rcases hm with ⟨m1, -⟩ | ⟨-, m2, -, -⟩ | ⟨-, bf, bt, ii', jj', nn', nf, nt, st', hbf, hbt, g1, g2, e1', e2', e3', g3, g4, g5, g6, g7, g8, g9, g10, g11⟩
      · exact absurd q0 m1
      · exfalso
        apply m2
        rw [z1, z2, fi, e1, e2, e3]
        refine ⟨⟨nI_pos (by omega), nI_pos (by omega), ?_⟩, ⟨nI_pos (by omega), nI_pos (by omega), ?_⟩⟩
        · rw [pk_sub (by omega)]; exact nI_nlt (by omega) (by omega)
        · rw [pk_sub (by omega)]; exact nI_nlt (by omega) (by omega)
      · obtain rfl : k1 = bf := (nI_eq (by omega) (by omega)).mp (f1.symm.trans g1)
        obtain rfl : k2 = bt := (nI_eq (by omega) (by omega)).mp (f2.symm.trans g2)
        obtain rfl : ii = ii' := (nI_eq (by omega) (by omega)).mp (e1.symm.trans e1')
        obtain rfl : jj = jj' := (nI_eq (by omega) (by omega)).mp (e2.symm.trans e2')
        obtain rfl : nn = nn' := (nI_eq (by omega) (by omega)).mp (e3.symm.trans e3')
        have key : ∀ k, k < nn → (cAdm (bS (dk (cl b))) (bT (dk (cl a)) (ii + k)) ↔ ¬ mBad sc sg k1 k2 ii k) := by
          intro k hk
          have sr := B1.2.2.2.2.2 (ii + k) (by omega)
          unfold mBad
          rw [B1.1, B2.1, show 40 * k1 + ii + k = 40 * k1 + (ii + k) by omega]
          by_cases hp : 6 ≤ bS (dk (cl a))
          · rw [sr.may hp B2.2.1 B2.2.2.1]
            refine ⟨fun q z => z.2 q, fun q => Decidable.byContradiction (fun z => q ⟨pic6.mp hp, z⟩)⟩
          · exact ⟨fun _ z => hp (pic6.mpr z.1), fun _ => sr.adm0 hp⟩
        obtain rfl : st = st' := stop_uniq key c3.1 c3.2.1 c3.2.2 g9.1 g9.2.1 g9.2.2
        refine ⟨c4.trans g10.symm, ?_⟩
        have hst := c3.1
        rw [c5, c6, g11]
        refine h.book hb.lt hk2 f2 (fun q hq => mCpy_out sg (by omega)) (fun p hp => ?_)
        by_cases hin : jj ≤ p ∧ p < jj + st
        · rw [pk_cpy_in hin.1 hin.2, pk_cpy_in hin.1 hin.2]
          have : mCpy sg (40 * k1 + ii) (40 * k2 + jj) 0 st (40 * k2 + p) = sg (40 * k1 + (ii + (p - jj))) := by
            unfold mCpy
            rw [if_pos (by omega)]
            congr 1; omega
          rw [this]
          exact (B1.2.2.2.2.2 (ii + (p - jj)) (by omega)).kind al.2
        · rw [pk_cpy_out (by omega), pk_cpy_out (by omega), mCpy_out sg (by omega)]
          exact B2.2.2.2.2.2 p hp
  · rcases hc with ⟨-, c2, c3, c4⟩ | ⟨c1, -⟩ | ⟨c1, -⟩
    · rcases hm with ⟨-, m2, m3⟩ | ⟨m1, -⟩ | ⟨m1, -⟩
      · rw [c3, c4, m3, va_up_same, va_up_same]; exact ⟨by rw [c2, m2, he], h⟩
      · exact absurd m1 q0
      · exact absurd m1 q0
    · exact absurd (he.symm.trans c1) q0
    · exact absurd (he.symm.trans c1) q0
end SM2
theorem SS.copy {ink cop : Nat → Int32} {wai : Nat → Nat} {O : Nat → Nat → Ord} {ik cp wt wa : Nat → Int32} (h : SS ink cop wai O ik cp wt wa) (s : Nat) (hs : s < 3) (x : Int32) : SS (upd ink s (ink s - x)) (upd cop s (cop s + x)) wai O (upd ik s (ik s - x)) (upd cp s (cp s + x)) wt wa := by
  intro j hj
  obtain ⟨h1, h2, h3, h4, h5⟩ := h j hj
  by_cases e : j = s
  · subst e
    rw [pk_us, pk_us, pk_us, pk_us, h1, h2]; exact ⟨rfl, rfl, h3, h4, h5⟩
  · rw [pk_un e, pk_un e, pk_un e, pk_un e]; exact ⟨h1, h2, h3, h4, h5⟩
theorem ST.copy {tl ct : Nat → Int32} (h : ST tl ct) {r : Int32} (hr : rRng r) : ST (cTl tl r) (mCt ct r) := by
  obtain ⟨t, h1, h2, e⟩ := mTal_ne hr
  have ec : cl (mTal r) = t := by rw [e]; exact cl_nI (by omega)
  intro k hk
  unfold cTl mCt
  rw [ec]
  have h0 := h 0 (by decide)
  have h6 := h 6 (by decide)
  have ht := h t (by omega)
  have hk9 := h k hk
  simp only [upd]
  by_cases a : k = 6
  · subst a
    rw [if_pos rfl, if_neg (show ¬ 6 = t by omega), if_neg (show ¬ 6 = 0 by decide), if_neg (show ¬ 6 = t by omega), if_neg (show ¬ (6 = 0) by decide), if_pos rfl, h6]
  · rw [if_neg a]
    by_cases b : k = t
    · subst b
      simp [a, show ¬ k = 0 by omega, hk9]
    · rw [if_neg b, if_neg b]
      by_cases c : k = 0
      · subst c; simp [h0]
      · simp [a, c, hk9]
theorem SH.copy {nx he : Nat} {C : Nat → Nat → Int32} {ch ct : Nat → Int32} {cb : Nat} (h : SH nx he C ch ct cb) (hcb : cb + 1 < 2 ^ 30) {s a b r : Int32} (hr : rRng r) : SH ((nx + 1) % 16) (if he + 1 < 16 then he + 1 else 16) (cRowp C nx s a b r) (mCh ch (mAt ct) s a b r) (mCt ct r) (cb + 1) := by
  obtain ⟨⟨c0, h1, h2, h3, h4⟩, h5⟩ := h
  refine ⟨⟨c0 + 1, by rw [mCt_0 hr, h1, nI_1], by omega, by omega, ?_⟩, fun k j hk hj => ?_⟩
  · rw [h4]
    by_cases q : c0 < 16
    · rw [if_pos q]
    · rw [if_neg q, if_neg (by omega), if_neg (by omega)]
  · have e : mAt ct = nI nx := by rw [mAt_nat (c0 := c0) ⟨h1, by omega⟩, h3]
    have hnx : nx < 16 := by omega
    unfold mCh cRowp
    rw [e]
    have i0 : cl (4 * nI nx) = 4 * nx := by rw [show (4 : Int32) = nI 4 from rfl, pk_mul]; exact cl_nI (by omega)
    have i1 : cl (4 * nI nx + 1) = 4 * nx + 1 := by rw [show (4 : Int32) = nI 4 from rfl, pk_mul, nI_1]; exact cl_nI (by omega)
    have i2 : cl (4 * nI nx + 2) = 4 * nx + 2 := by rw [show (4 : Int32) = nI 4 from rfl, pk_mul, show (2 : Int32) = nI 2 from rfl, nI_add]; exact cl_nI (by omega)
    have i3 : cl (4 * nI nx + 3) = 4 * nx + 3 := by rw [show (4 : Int32) = nI 4 from rfl, pk_mul, show (3 : Int32) = nI 3 from rfl, nI_add]; exact cl_nI (by omega)
    rw [i0, i1, i2, i3]
    have h5' := h5 k j hk hj
    rcases (show k = 0 ∨ k = 1 ∨ k = 2 ∨ k = 3 by omega) with rfl | rfl | rfl | rfl
    · show _ = upd (C 0) nx s j
      by_cases e2 : j = nx
      · subst e2
        rw [pk_us]
        simp [upd]
      · rw [pk_un e2, pk_un (show 4 * j + 0 ≠ 4 * nx + 3 by omega), pk_un (show 4 * j + 0 ≠ 4 * nx + 2 by omega), pk_un (show 4 * j + 0 ≠ 4 * nx + 1 by omega), pk_un (show 4 * j + 0 ≠ 4 * nx by omega)]
        exact h5'
    · show _ = upd (C 1) nx a j
      by_cases e2 : j = nx
      · subst e2
        rw [pk_us]
        simp [upd]
      · rw [pk_un e2, pk_un (show 4 * j + 1 ≠ 4 * nx + 3 by omega), pk_un (show 4 * j + 1 ≠ 4 * nx + 2 by omega), pk_un (show 4 * j + 1 ≠ 4 * nx + 1 by omega), pk_un (show 4 * j + 1 ≠ 4 * nx by omega)]
        exact h5'
    · show _ = upd (C 2) nx b j
      by_cases e2 : j = nx
      · subst e2
        rw [pk_us]
        simp [upd]
      · rw [pk_un e2, pk_un (show 4 * j + 2 ≠ 4 * nx + 3 by omega), pk_un (show 4 * j + 2 ≠ 4 * nx + 2 by omega), pk_un (show 4 * j + 2 ≠ 4 * nx + 1 by omega), pk_un (show 4 * j + 2 ≠ 4 * nx by omega)]
        exact h5'
    · show _ = upd (C 3) nx r j
      by_cases e2 : j = nx
      · subst e2
        rw [pk_us]
        simp [upd]
      · rw [pk_un e2, pk_un (show 4 * j + 3 ≠ 4 * nx + 3 by omega), pk_un (show 4 * j + 3 ≠ 4 * nx + 2 by omega), pk_un (show 4 * j + 3 ≠ 4 * nx + 1 by omega), pk_un (show 4 * j + 3 ≠ 4 * nx by omega)]
        exact h5'
/-- copy, in both -/
theorem sim_perf {ad : Nat → Nat} {cs cs' : CSt} {u u' : MS} {cb : Nat} (h : Sim ad cs u cb) (hcb : cb + 1 < 2 ^ 30) {s a i b j n r r2 : Int32} (hN : ∀ dk BK bS bN bV bT vA sA x y z, cs = (dk, (BK, bS, bN, bV, bT, vA, sA), x, y, z) → ∀ k, k < 6 → bN (dk k) ≤ 40) (hc : cPerfP cs s a i b j n r cs') (hm : mCopyP u s a i b j n r2 u') : r = r2 ∧ Sim ad cs' u' (cb + 1) := by
  obtain ⟨dk, ⟨BK, bS, bN, bV, bT, vA, sA⟩, ⟨ink, cop, wai, O⟩, ⟨nx, he, C⟩, tl⟩ := cs
  obtain ⟨d, sc, sz, sg, ik, cp, wt, wa, ch, ct, th⟩ := u
  obtain ⟨hD, hS, hT, hH⟩ := h
  have hN' := hN dk BK bS bN bV bT vA sA _ _ _ rfl
  rcases hc with ⟨c1, c2, rfl⟩ | ⟨c1, c2, c3, rfl⟩ | ⟨c1, c2, V', T', c3, rfl⟩
  · rcases hm with ⟨m1, m2, rfl⟩ | ⟨m1, -⟩ | ⟨m1, -⟩
    · exact ⟨c2.trans m2.symm, hD, hS, hT, hH.up (by omega)⟩
    · exact absurd m1 c1
    · exact absurd m1 c1
  · have hi := (hS _ c1.1.lt).1
    rcases hm with ⟨m1, -⟩ | ⟨m1, m2, m3, rfl⟩ | ⟨m1, m2, -⟩
    · exact absurd c1 m1
    · exact ⟨c3.trans m3.symm, hD, hS, hT, hH.up (by omega)⟩
    · rw [hi] at m2; exact absurd c2 m2
  · have hi := (hS _ c1.1.lt).1
    rcases hm with ⟨m1, -⟩ | ⟨m1, m2, -⟩ | ⟨m1, m2, sg', m3, rfl⟩
    · exact absurd c1 m1
    · rw [hi] at m2; exact absurd m2 c2
    · obtain ⟨e, hD'⟩ := sim_pass hD c1.2.1 c1.2.2 c3 m3
      have hr : rRng r := cPass_rng (hN' _ c1.2.2.lt) c3
      rw [← e]
      exact ⟨rfl, hD', hS.copy _ c1.1.lt _, hT.copy hr, hH.copy hcb hr⟩
