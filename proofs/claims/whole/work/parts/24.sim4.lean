/-! write, order, copy, day and the start, in both -/
theorem SD.wr {ad dk : Nat → Nat} {bS : Nat → Int32} {bN : Nat → Nat} {bV : Nat → Nat → Int64} {bT : Nat → Nat → Int32} {d sc sz : Nat → Int32} {sg : Nat → Int64} (h : SD ad dk bS bN bV bT d sc sz sg) {i k jj : Nat} (hi : i < 6) (hk : k < 6) (hd : d i = nI k) (hj : jj < bN (dk i)) (h40 : bN (dk i) ≤ 40) (hold : ∀ p, p < bN (dk i) → SgnR (bS (dk i)) (bV (dk i) p) (bT (dk i) p) (sg (40 * k + p))) {v g : Int64} {t : Int32} (S : SgnR (bS (dk i)) v t g) :
    SD ad dk bS bN (va_up bV (dk i) (vp_updL (bV (dk i)) jj v)) (va_up bT (dk i) (upd (bT (dk i)) jj t)) d sc sz (vp_updL sg (40 * k + jj) g) := by
  refine h.book hi hk hd (fun q hq => ?_) (fun p hp => ?_)
  · unfold vp_updL; rw [if_neg (by omega)]
  · by_cases e : p = jj
    · subst e
      rw [pk_us]
      unfold vp_updL
      rw [if_pos rfl, if_pos rfl]; exact S
    · rw [pk_un e]
      unfold vp_updL
      rw [if_neg e, if_neg (by omega)]; exact hold p hp
section SM4
variable {Y : Nat → ClassId} {h h' : PH} {ad dk : Nat → Nat} {BK : List Nat} {bS : Nat → Int32} {bN : Nat → Nat} {bV : Nat → Nat → Int64} {bT : Nat → Nat → Int32} {vA sA : Nat → Nat} {ink cop : Nat → Int32} {wai : Nat → Nat} {O : Nat → Nat → Ord} {nx he : Nat} {C : Nat → Nat → Int32} {tl : Nat → Int32}
variable {d sc sz : Nat → Int32} {sg : Nat → Int64} {ik cp wt wa ch ct : Nat → Int32} {th : Int32} {u' : MS} {cb : Nat} {p0 p1 p2 p3 p4 p5 r r2 : Int32}
theorem upd_same {f : Nat → Int32} {k : Nat} {v : Int32} (e : f k = v) : upd f k v = f := by
  funext j
  by_cases q : j = k
  · rw [q, pk_us, e]
  · rw [pk_un q]
theorem wr_pic {s t : Int32} {v : Int64} (p6 : 6 ≤ s) (g : t = 0 ∨ t = 1 ∨ t = 2) : SgnR s (if t = 0 then 0 else v.toInt32.toInt64) t (mSgn s t v) := by
  refine ⟨fun _ => ⟨?_, g, ?_⟩, fun q => absurd p6 q⟩
  · unfold mSgn
    rw [if_pos (pic6.mp p6)]
    by_cases e : t = 0
    · rw [if_pos e, if_pos e, e]; decide +kernel
    · rw [if_neg e, if_neg e, jsh32]
  · by_cases e : t = 0
    · rw [if_pos e]; decide +kernel
    · rw [if_neg e]; exact sx32 v
theorem wr_num {s t : Int32} {v : Int64} (p6 : ¬ 6 ≤ s) (h0 : ¬ s < 0) : SgnR s (cCut s v) 0 (mSgn s t v) := by
  refine ⟨fun q => absurd q p6, fun _ => ⟨?_, rfl⟩⟩
  unfold mSgn
  rw [if_neg (fun q => p6 (pic6.mpr q)), mCut_eq (six h0 p6)]
theorem sim_write {v : Int64} (hC : CRep Y h ad (dk, (BK, bS, bN, bV, bT, vA, sA), (ink, cop, wai, O), (nx, he, C), tl)) (hS : Sim ad (dk, (BK, bS, bN, bV, bT, vA, sA), (ink, cop, wai, O), (nx, he, C), tl) (d, sc, sz, sg, ik, cp, wt, wa, ch, ct, th) cb)
    (hx : cWriteP Y h h' ad (dk, (BK, bS, bN, bV, bT, vA, sA), (ink, cop, wai, O), (nx, he, C), tl) p0 p1 p2 v r) (hm : mWriteP (d, sc, sz, sg, ik, cp, wt, wa, ch, ct, th) p0 p1 p2 v r2 u') : r = r2 ∧ sOut Y ad h' u' cb := by
  obtain ⟨hD, hSS, hT, hH⟩ := hS
  have fin : ∀ u9, u9 = (d, sc, sz, sg, ik, cp, wt, wa, ch, ct, (0 : Int32)) → sOut Y ad h u9 cb := fun u9 e => by rw [e]; exact ⟨_, hC, hD, hSS, hT, hH⟩
  by_cases a : isD p0
  · by_cases q : d (cl p0) < 0
    · have e := hD.neg a.lt q
      have qs := (hD.sneg a.lt).mpr q
      have n6 : ¬ 6 ≤ bS (dk (cl p0)) := fun z => absurd (Int32.lt_of_le_of_lt z qs) (by decide)
      rcases hm with ⟨m, -⟩ | ⟨-, m, -⟩ | ⟨-, -, m, m2⟩ | ⟨-, m, -⟩ | ⟨-, m, -⟩ | ⟨-, m, -⟩
      · exact absurd a m
      · exact absurd q m.1
      · rcases hx with ⟨c, -⟩ | ⟨-, c, -⟩ | ⟨-, -, c, c2⟩ | ⟨-, c, -⟩ | ⟨-, c, -⟩ | ⟨-, c, -⟩ | ⟨-, c, -⟩
        · exact absurd a c
        · exact absurd c.1 n6
        · rw [c2]; exact ⟨by rw [c, m, e], fin _ m2⟩
        · exact absurd qs c
        · exact absurd qs c
        · exact absurd qs c
        · exact absurd qs c
      · exact absurd q m
      · exact absurd q m
      · exact absurd q m
    · obtain ⟨k, hk, f, n1, n2, B⟩ := hD.pos a.lt q
      have h40 := B.2.2.2.2.1
      have ek : cl (d (cl p0)) = k := by rw [f]; exact cl_nI (by omega)
      have qs := B.2.1
      have es : sc (cl (d (cl p0))) = bS (dk (cl p0)) := by rw [ek]; exact B.1
      have ez : sz (cl (d (cl p0))) = nI (bN (dk (cl p0))) := by rw [ek]; exact B.2.2.2.1
      simp only [mWriteP, es, ez] at hm
      have big : ∀ {v9 g9 : Int64} {t9 : Int32} {T9 : Nat → Int32}, SgnR (bS (dk (cl p0))) v9 t9 g9 → (¬ p1 < 0 ∧ ¬ nI (bN (dk (cl p0))) ≤ p1) → T9 = upd (bT (dk (cl p0))) (cl p1) t9 → CRep Y h' ad (dk, (BK, bS, bN, va_up bV (dk (cl p0)) (vp_updL (bV (dk (cl p0))) (cl p1) v9), va_up bT (dk (cl p0)) T9, vA, sA), (ink, cop, wai, O), (nx, he, C), tl) → sOut Y ad h' (d, sc, sz, vp_updL sg (cl (40 * d (cl p0) + p1)) g9, ik, cp, wt, wa, ch, ct, 0) cb := by
        intro v9 g9 t9 T9 S w eT hc
        obtain ⟨jj, hj, ej⟩ := nI_of w.1
        have hjn : jj < bN (dk (cl p0)) := by
          have w2 := w.2
          rw [ej, nI_leI (by omega) hj] at w2; omega
        have cj : cl p1 = jj := by rw [ej]; exact cl_nI hj
        have ix : cl (40 * d (cl p0) + p1) = 40 * k + jj := by rw [f, ej]; exact cl40 hk (by omega)
        rw [eT, cj] at hc
        rw [ix]
        exact ⟨_, hc, hD.wr a.lt hk f hjn h40 B.2.2.2.2.2 S, hSS, hT, hH⟩
      by_cases p6 : 6 ≤ bS (dk (cl p0))
      · have p5 := pic6.mp p6
        by_cases g : ¬ p2 < 0 ∧ p2 ≤ 2
        · by_cases w : ¬ p1 < 0 ∧ ¬ nI (bN (dk (cl p0))) ≤ p1
          · have w' : ¬ p1 < 0 ∧ p1 < nI (bN (dk (cl p0))) := ⟨w.1, Int32.not_le.mp w.2⟩
            have S : SgnR (bS (dk (cl p0))) (if p2 = 0 then 0 else v.toInt32.toInt64) p2 (mSgn (bS (dk (cl p0))) p2 v) := wr_pic p6 (le2.mp g)
            have my := S.may p6 qs B.2.2.1
            rcases hm with ⟨m, -⟩ | ⟨-, m, -⟩ | ⟨-, m, -⟩ | ⟨-, -, -, m, -⟩ | ⟨-, -, -, -, m, m2, m3⟩ | ⟨-, -, -, -, m, m2, m3⟩
            · exact absurd a m
            · exact absurd g m.2.2
            · exact absurd m q
            · exact absurd w' m
            · rcases hx with ⟨c, -⟩ | ⟨-, c, -⟩ | ⟨-, c, -⟩ | ⟨-, -, -, c, -⟩ | ⟨-, -, -, -, -, c, c2, c3⟩ | ⟨-, -, -, -, -, c, -⟩ | ⟨-, -, -, c, -⟩
              · exact absurd a c
              · exact absurd g c.2
              · exact absurd c qs
              · exact absurd w c
              · rw [c3]; exact ⟨c2.trans m2.symm, fin _ m3⟩
              · exact absurd (my.mpr c) m.2
              · exact absurd p6 c
            · rcases hx with ⟨c, -⟩ | ⟨-, c, -⟩ | ⟨-, c, -⟩ | ⟨-, -, -, c, -⟩ | ⟨-, -, -, -, -, c, -⟩ | ⟨-, -, -, -, -, c, c2, hc⟩ | ⟨-, -, -, c, -⟩
              · exact absurd a c
              · exact absurd g c.2
              · exact absurd c qs
              · exact absurd w c
              · exact absurd (my.mp (m p5)) c
              · rw [m3]; exact ⟨c2.trans m2.symm, big S w rfl hc⟩
              · exact absurd p6 c
          · have w' : ¬ (¬ p1 < 0 ∧ p1 < nI (bN (dk (cl p0)))) := fun z => w ⟨z.1, Int32.not_le.mpr z.2⟩
            rcases hm with ⟨m, -⟩ | ⟨-, m, -⟩ | ⟨-, m, -⟩ | ⟨-, -, -, -, m2, m3⟩ | ⟨-, -, -, m, -⟩ | ⟨-, -, -, m, -⟩
            · exact absurd a m
            · exact absurd g m.2.2
            · exact absurd m q
            · rcases hx with ⟨c, -⟩ | ⟨-, c, -⟩ | ⟨-, c, -⟩ | ⟨-, -, -, -, c2, c3⟩ | ⟨-, -, -, c, -⟩ | ⟨-, -, -, c, -⟩ | ⟨-, -, c, -⟩
              · exact absurd a c
              · exact absurd g c.2
              · exact absurd c qs
              · rw [c3]; exact ⟨c2.trans m2.symm, fin _ m3⟩
              · exact absurd c w
              · exact absurd c w
              · exact absurd c w
            · exact absurd m w'
            · exact absurd m w'
        · rcases hm with ⟨m, -⟩ | ⟨-, -, m2, m3⟩ | ⟨-, m, -⟩ | ⟨-, -, m, -⟩ | ⟨-, -, m, -⟩ | ⟨-, -, m, -⟩
          · exact absurd a m
          · rcases hx with ⟨c, -⟩ | ⟨-, -, c2, c3⟩ | ⟨-, c, -⟩ | ⟨-, -, c, -⟩ | ⟨-, -, c, -⟩ | ⟨-, -, c, -⟩ | ⟨-, -, -, c, -⟩
            · exact absurd a c
            · rw [c3]; exact ⟨c2.trans m2.symm, fin _ m3⟩
            · exact absurd c qs
            · exact absurd (c p6) g
            · exact absurd c g
            · exact absurd c g
            · exact absurd p6 c
          · exact absurd m q
          · exact absurd (m p5) g
          · exact absurd (m p5) g
          · exact absurd (m p5) g
      · have p5 : ¬ 5 < bS (dk (cl p0)) := fun z => p6 (pic6.mpr z)
        by_cases w : ¬ p1 < 0 ∧ ¬ nI (bN (dk (cl p0))) ≤ p1
        · have w' : ¬ p1 < 0 ∧ p1 < nI (bN (dk (cl p0))) := ⟨w.1, Int32.not_le.mp w.2⟩
          rcases hm with ⟨m, -⟩ | ⟨-, m, -⟩ | ⟨-, m, -⟩ | ⟨-, -, -, m, -⟩ | ⟨-, -, -, -, m, -⟩ | ⟨-, -, -, -, m, m2, m3⟩
          · exact absurd a m
          · exact absurd m.2.1 p5
          · exact absurd m q
          · exact absurd w' m
          · exact absurd m.1 p5
          · rcases hx with ⟨c, -⟩ | ⟨-, c, -⟩ | ⟨-, c, -⟩ | ⟨-, -, -, c, -⟩ | ⟨-, -, -, -, c, -⟩ | ⟨-, -, -, -, c, -⟩ | ⟨-, -, -, -, c2, hc⟩
            · exact absurd a c
            · exact absurd c.1 p6
            · exact absurd c qs
            · exact absurd w c
            · exact absurd c p6
            · exact absurd c p6
            · rw [m3]
              refine ⟨c2.trans m2.symm, big (wr_num p6 qs) w ?_ hc⟩
              obtain ⟨jj, hj, ej⟩ := nI_of w.1
              have hjn : jj < bN (dk (cl p0)) := by
                have w2 := w.2
                rw [ej, nI_leI (by omega) hj] at w2; omega
              have cj : cl p1 = jj := by rw [ej]; exact cl_nI hj
              rw [cj]
              exact (upd_same ((B.2.2.2.2.2 jj hjn).2 p6).2).symm
        · have w' : ¬ (¬ p1 < 0 ∧ p1 < nI (bN (dk (cl p0)))) := fun z => w ⟨z.1, Int32.not_le.mpr z.2⟩
          rcases hm with ⟨m, -⟩ | ⟨-, m, -⟩ | ⟨-, m, -⟩ | ⟨-, -, -, -, m2, m3⟩ | ⟨-, -, -, m, -⟩ | ⟨-, -, -, m, -⟩
          · exact absurd a m
          · exact absurd m.2.1 p5
          · exact absurd m q
          · rcases hx with ⟨c, -⟩ | ⟨-, c, -⟩ | ⟨-, c, -⟩ | ⟨-, -, -, -, c2, c3⟩ | ⟨-, -, -, c, -⟩ | ⟨-, -, -, c, -⟩ | ⟨-, -, c, -⟩
            · exact absurd a c
            · exact absurd c.1 p6
            · exact absurd c qs
            · rw [c3]; exact ⟨c2.trans m2.symm, fin _ m3⟩
            · exact absurd c w
            · exact absurd c w
            · exact absurd c w
          · exact absurd m w'
          · exact absurd m w'
  · rcases hm with ⟨-, m2, m3⟩ | ⟨m, -⟩ | ⟨m, -⟩ | ⟨m, -⟩ | ⟨m, -⟩ | ⟨m, -⟩
    · rcases hx with ⟨-, c2, c3⟩ | ⟨c, -⟩ | ⟨c, -⟩ | ⟨c, -⟩ | ⟨c, -⟩ | ⟨c, -⟩ | ⟨c, -⟩
      · rw [c3]; exact ⟨c2.trans m2.symm, fin _ m3⟩
      · exact absurd c a
      · exact absurd c a
      · exact absurd c a
      · exact absurd c a
      · exact absurd c a
      · exact absurd c a
    · exact absurd m a
    · exact absurd m a
    · exact absurd m a
    · exact absurd m a
    · exact absurd m a
/-! order -/
theorem mWt_out {wt : Nat → Int32} {a q : Nat} (ha : a < 2 ^ 30) {x y z w n : Int32} (h : q < a ∨ a + 5 ≤ q) : mWt wt (nI a) x y z w n q = wt q := by
  unfold mWt
  rw [nI_1, show (2 : Int32) = nI 2 from rfl, show (3 : Int32) = nI 3 from rfl, show (4 : Int32) = nI 4 from rfl, nI_add, nI_add, nI_add, cl_nI (show a < 2 ^ 31 by omega), cl_nI (show a + 1 < 2 ^ 31 by omega), cl_nI (show a + 2 < 2 ^ 31 by omega), cl_nI (show a + 3 < 2 ^ 31 by omega), cl_nI (show a + 4 < 2 ^ 31 by omega)]
  rw [pk_un (show q ≠ a + 4 by omega), pk_un (show q ≠ a + 3 by omega), pk_un (show q ≠ a + 2 by omega), pk_un (show q ≠ a + 1 by omega), pk_un (show q ≠ a by omega)]
theorem mWt_in {wt : Nat → Int32} {a : Nat} (ha : a < 2 ^ 30) {x y z w n : Int32} : mWt wt (nI a) x y z w n a = x ∧ mWt wt (nI a) x y z w n (a + 1) = y ∧ mWt wt (nI a) x y z w n (a + 2) = z ∧ mWt wt (nI a) x y z w n (a + 3) = w ∧ mWt wt (nI a) x y z w n (a + 4) = n := by
  unfold mWt
  rw [nI_1, show (2 : Int32) = nI 2 from rfl, show (3 : Int32) = nI 3 from rfl, show (4 : Int32) = nI 4 from rfl, nI_add, nI_add, nI_add, cl_nI (show a < 2 ^ 31 by omega), cl_nI (show a + 1 < 2 ^ 31 by omega), cl_nI (show a + 2 < 2 ^ 31 by omega), cl_nI (show a + 3 < 2 ^ 31 by omega), cl_nI (show a + 4 < 2 ^ 31 by omega)]
  refine ⟨?_, ?_, ?_, ?_, ?_⟩ <;> simp [upd]
theorem sim_order (hS : Sim ad (dk, (BK, bS, bN, bV, bT, vA, sA), (ink, cop, wai, O), (nx, he, C), tl) (d, sc, sz, sg, ik, cp, wt, wa, ch, ct, th) cb)
    (hx : (((isS p0 ∧ isD p1 ∧ isD p3) ∧ wai (cl p0) < 8) ∧ r = nI (wai (cl p0) + 1) ∧ CRep Y h' ad (dk, (BK, bS, bN, bV, bT, vA, sA), (ink, cop, va_up wai (cl p0) (wai (cl p0) + 1), va_up O (cl p0) (va_up (O (cl p0)) (wai (cl p0)) (p1, p2, p3, p4, p5))), (nx, he, C), tl)) ∨ (¬ ((isS p0 ∧ isD p1 ∧ isD p3) ∧ wai (cl p0) < 8) ∧ r = -99 ∧ CRep Y h' ad (dk, (BK, bS, bN, bV, bT, vA, sA), (ink, cop, wai, O), (nx, he, C), tl)))
    (hm : ((isS p0 ∧ isD p1 ∧ isD p3 ∧ ¬ wa (cl p0) = 8) ∧ r2 = wa (cl p0) + 1 ∧ u' = (d, sc, sz, sg, ik, cp, mWt wt (mOrdAt p0 (wa (cl p0))) p1 p2 p3 p4 p5, upd wa (cl p0) (wa (cl p0) + 1), ch, ct, 0)) ∨ (¬ (isS p0 ∧ isD p1 ∧ isD p3 ∧ ¬ wa (cl p0) = 8) ∧ r2 = -99 ∧ u' = (d, sc, sz, sg, ik, cp, wt, wa, ch, ct, 0))) : r = r2 ∧ sOut Y ad h' u' cb := by
  obtain ⟨hD, hSS, hT, hH⟩ := hS
  have w8 : isS p0 → (¬ wa (cl p0) = 8 ↔ wai (cl p0) < 8) := fun a => by
    obtain ⟨-, -, q3, q4, -⟩ := hSS _ a.lt
    rw [q3, show (8 : Int32) = nI 8 from rfl, nI_eq (by omega) (by omega)]; omega
  rcases hx with ⟨a, e, hc⟩ | ⟨a, e, hc⟩ <;> rcases hm with ⟨b, e2, e3⟩ | ⟨b, e2, e3⟩
  · obtain ⟨s, hs, es⟩ := a.1.1.nat
    have cs : cl p0 = s := by rw [es]; exact cl_nI (by omega)
    rw [cs] at e hc e2 e3 a
    obtain ⟨q1, q2, q3, q4, q5⟩ := hSS s hs
    rw [q3, es, mOrdAt_nat, nI_1] at e3
    rw [e3]
    refine ⟨by rw [e, e2, q3, nI_1], _, hc, hD, fun s' hs' => ?_, hT, hH⟩
    have a2 := a.2
    obtain ⟨r1, r2, r3, r4, r5⟩ := hSS s' hs'
    by_cases z : s' = s
    · subst z
      rw [pk_us, va_up_self, va_up_self]
      refine ⟨r1, r2, rfl, by omega, fun k hk => ?_⟩
      by_cases y : k = wai s'
      · subst y
        rw [va_up_self]
        exact mWt_in (by omega)
      · rw [va_up_ne _ _ y]
        obtain ⟨o1, o2, o3, o4, o5⟩ := r5 k (by omega)
        refine ⟨?_, ?_, ?_, ?_, ?_⟩
        · rw [mWt_out (by omega) (by omega)]; exact o1
        · rw [mWt_out (by omega) (by omega)]; exact o2
        · rw [mWt_out (by omega) (by omega)]; exact o3
        · rw [mWt_out (by omega) (by omega)]; exact o4
        · rw [mWt_out (by omega) (by omega)]; exact o5
    · rw [pk_un z, va_up_ne _ _ z, va_up_ne _ _ z]
      refine ⟨r1, r2, r3, r4, fun k hk => ?_⟩
      obtain ⟨o1, o2, o3, o4, o5⟩ := r5 k hk
      refine ⟨?_, ?_, ?_, ?_, ?_⟩
      · rw [mWt_out (by omega) (by omega)]; exact o1
      · rw [mWt_out (by omega) (by omega)]; exact o2
      · rw [mWt_out (by omega) (by omega)]; exact o3
      · rw [mWt_out (by omega) (by omega)]; exact o4
      · rw [mWt_out (by omega) (by omega)]; exact o5
  · exact absurd ⟨a.1.1, a.1.2.1, a.1.2.2, (w8 a.1.1).mpr a.2⟩ b
  · exact absurd ⟨⟨b.1, b.2.1, b.2.2.1⟩, (w8 b.1).mp b.2.2.2⟩ a
  · rw [e3]; exact ⟨e.trans e2.symm, _, hc, hD, hSS, hT, hH⟩
/-! copy and day -/
theorem CRep.n40 (H : CRep Y h ad (dk, (BK, bS, bN, bV, bT, vA, sA), (ink, cop, wai, O), (nx, he, C), tl)) : ∀ k, k < 6 → bN (dk k) ≤ 40 := by
  obtain ⟨-, ⟨g, -, hg⟩, hb, -⟩ := H
  exact fun k hk => (hb _ (hg k hk).2).2.2.2
theorem sim_copy (hC : CRep Y h ad (dk, (BK, bS, bN, bV, bT, vA, sA), (ink, cop, wai, O), (nx, he, C), tl)) (hcb : cb + 1 < 2 ^ 30) (hS : Sim ad (dk, (BK, bS, bN, bV, bT, vA, sA), (ink, cop, wai, O), (nx, he, C), tl) (d, sc, sz, sg, ik, cp, wt, wa, ch, ct, th) cb)
    (hx : ∃ cs', CRep Y h' ad cs' ∧ cPerfP (dk, (BK, bS, bN, bV, bT, vA, sA), (ink, cop, wai, O), (nx, he, C), tl) p0 p1 p2 p3 p4 p5 r cs') (hm : mCopyP (d, sc, sz, sg, ik, cp, wt, wa, ch, ct, th) p0 p1 p2 p3 p4 p5 r2 u') : r = r2 ∧ sOut Y ad h' u' (cb + 1) := by
  obtain ⟨cs', hc, hp⟩ := hx
  obtain ⟨e, hs⟩ := sim_perf hS hcb (fun dk' BK' bS' bN' bV' bT' vA' sA' x y z he k hk => by
    injection he with e1 e2
    injection e2 with e3 e4
    injection e3 with e5 e6
    injection e6 with e7 e8
    injection e8 with e9 e10
    rw [← e1, ← e9]; exact hC.n40 k hk) hp hm
  exact ⟨e, cs', hc, hs⟩
def N40 : CSt → Prop
  | (dk, (_, _, bN, _, _, _, _), _, _, _) => ∀ k, k < 6 → bN (dk k) ≤ 40
end SM4
theorem sim_step {ad : Nat → Nat} {s : Nat} (hs : s < 3) {cs cs' : CSt} {u u' : MS} {i i2 cb : Nat} (hcb : cb + 1 < 2 ^ 30) (h : Sim ad cs u cb) (hN : N40 cs) (hc : cDayStep s cs cs' i) (hm : mDayStep s u u' i2) : i = i2 ∧ Sim ad cs' u' (cb + 1) ∧ N40 cs' := by
  obtain ⟨dk, ⟨BK, bS, bN, bV, bT, vA, sA⟩, ⟨ink, cop, wai, O⟩, ⟨nx, he, C⟩, tl⟩ := cs
  obtain ⟨d, sc, sz, sg, ik, cp, wt, wa, ch, ct, th⟩ := u
  obtain ⟨hD, hS, hT, hH⟩ := id h
  obtain ⟨q1, q2, q3, q4, q5⟩ := hS s hs
  rcases hc with ⟨c1, rfl, rfl⟩ | ⟨c1, r, cs1, cp1, hc2⟩
  · rcases hm with ⟨m1, rfl, rfl⟩ | ⟨m1, -⟩
    · exact ⟨rfl, ⟨hD, hS, hT, hH.up (by omega)⟩, hN⟩
    · rw [q3, c1] at m1; exact absurd nI_0 m1
  · rcases hm with ⟨m1, -⟩ | ⟨-, r2, u1, cp2, hm2⟩
    · rw [q3, ← nI_0] at m1
      have := (nI_eq (by omega) (by omega)).mp m1
      omega
    · have o := q5 0 c1
      obtain ⟨o1, o2, o3, o4, o5⟩ := o
      rw [show 5 * (8 * s + 0) = 40 * s by omega] at o1 o2 o3 o4 o5
      rw [o1, o2, o3, o4, o5] at cp2
      obtain ⟨e, hs1⟩ := sim_perf h hcb (fun dk' BK' bS' bN' bV' bT' vA' sA' x y z he k hk => by
        injection he with e1 e2
        injection e2 with e3 e4
        injection e3 with e5 e6
        injection e6 with e7 e8
        injection e8 with e9 e10
        rw [← e1, ← e9]; exact hN k hk) cp1 cp2
      subst e
      obtain ⟨bV', bT', ink', cop', nx', he', C', tl', rfl⟩ := cPerf_keep cp1
      obtain ⟨sg', ik', cp', ch', ct', rfl, -⟩ := mCopy_keep cp2
      rcases hc2 with ⟨c2, rfl, rfl⟩ | ⟨c2, rfl, hc3⟩
      · rcases hm2 with ⟨m2, rfl, rfl⟩ | ⟨m2, -⟩
        · exact ⟨rfl, hs1, hN⟩
        · exact absurd c2 m2
      · rcases hm2 with ⟨m2, -⟩ | ⟨m2, rfl, w, ew, hw, rfl⟩
        · exact absurd m2 c2
        · have hc3 : cs' = (dk, (BK, bS, bN, bV', bT', vA, sA), (ink', cop', va_up wai s (wai s - 1), va_up O s (fun k => O s (k + 1))), (nx', he', C'), tl') := hc3
          subst hc3
          have ew2 : wai s = w + 1 := (nI_eq (by omega) (by omega)).mp (q3.symm.trans ew)
          obtain ⟨hD', hS', hT', hH'⟩ := hs1
          refine ⟨rfl, ⟨hD', fun s' hs' => ?_, hT', hH'⟩, hN⟩
          obtain ⟨r1, r2, r3, r4, r5⟩ := hS' s' hs'
          by_cases z : s' = s
          · subst z
            rw [pk_us, va_up_self, va_up_self]
            refine ⟨r1, r2, by rw [ew2]; rfl, by omega, fun k hk => ?_⟩
            obtain ⟨p1, p2, p3, p4, p5⟩ := r5 (k + 1) (by omega)
            unfold OrdR mShift
            rw [if_pos (by omega), if_pos (by omega), if_pos (by omega), if_pos (by omega), if_pos (by omega)]
            rw [show 5 * (8 * s' + k) + 5 = 5 * (8 * s' + (k + 1)) by omega, show 5 * (8 * s' + k) + 1 + 5 = 5 * (8 * s' + (k + 1)) + 1 by omega, show 5 * (8 * s' + k) + 2 + 5 = 5 * (8 * s' + (k + 1)) + 2 by omega, show 5 * (8 * s' + k) + 3 + 5 = 5 * (8 * s' + (k + 1)) + 3 by omega, show 5 * (8 * s' + k) + 4 + 5 = 5 * (8 * s' + (k + 1)) + 4 by omega]
            exact ⟨p1, p2, p3, p4, p5⟩
          · rw [pk_un z, va_up_ne _ _ z, va_up_ne _ _ z]
            refine ⟨r1, r2, r3, r4, fun k hk => ?_⟩
            obtain ⟨p1, p2, p3, p4, p5⟩ := r5 k hk
            unfold OrdR mShift
            rw [if_neg (by omega), if_neg (by omega), if_neg (by omega), if_neg (by omega), if_neg (by omega)]
            exact ⟨p1, p2, p3, p4, p5⟩
theorem sim_dayN {ad : Nat → Nat} : ∀ (K : Nat), K ≤ 3 → ∀ {cs cs' : CSt} {u u' : MS} {n n2 cb : Nat}, cb + K < 2 ^ 30 → Sim ad cs u cb → N40 cs → cDayN K cs cs' n → mDayN K u u' n2 → n = n2 ∧ Sim ad cs' u' (cb + K) ∧ N40 cs' := by
  intro K
  induction K with
  | zero =>
    intro _ cs cs' u u' n n2 cb _ h hN hc hm
    obtain ⟨rfl, rfl⟩ := hc
    obtain ⟨rfl, rfl⟩ := hm
    exact ⟨rfl, h, hN⟩
  | succ K ih =>
    intro hK cs cs' u u' n n2 cb hcb h hN hc hm
    obtain ⟨cs1, n1, i, hc1, hc2, rfl⟩ := hc
    obtain ⟨u1, n1', i', hm1, hm2, rfl⟩ := hm
    obtain ⟨e, h1, hN1⟩ := ih (by omega) (by omega) h hN hc1 hm1
    obtain ⟨e2, h2, hN2⟩ := sim_step (show K < 3 by omega) (by omega) h1 hN1 hc2 hm2
    exact ⟨by omega, h2, hN2⟩
theorem Sim.th {ad : Nat → Nat} {cs : CSt} {d sc sz : Nat → Int32} {sg : Nat → Int64} {ik cp wt wa ch ct : Nat → Int32} {th th' : Int32} {cb : Nat} (h : Sim ad cs (d, sc, sz, sg, ik, cp, wt, wa, ch, ct, th) cb) : Sim ad cs (d, sc, sz, sg, ik, cp, wt, wa, ch, ct, th') cb := by
  obtain ⟨dk, ⟨BK, bS, bN, bV, bT, vA, sA⟩, ⟨ink, cop, wai, O⟩, ⟨nx, he, C⟩, tl⟩ := cs
  exact h
section SM5
variable {Y : Nat → ClassId} {h h' : PH} {ad dk : Nat → Nat} {BK : List Nat} {bS : Nat → Int32} {bN : Nat → Nat} {bV : Nat → Nat → Int64} {bT : Nat → Nat → Int32} {vA sA : Nat → Nat} {ink cop : Nat → Int32} {wai : Nat → Nat} {O : Nat → Nat → Ord} {nx he : Nat} {C : Nat → Nat → Int32} {tl : Nat → Int32}
variable {d sc sz : Nat → Int32} {sg : Nat → Int64} {ik cp wt wa ch ct : Nat → Int32} {th : Int32} {u' : MS} {cb : Nat} {r r2 : Int32}
theorem sim_day (hC : CRep Y h ad (dk, (BK, bS, bN, bV, bT, vA, sA), (ink, cop, wai, O), (nx, he, C), tl)) (hcb : cb + 3 < 2 ^ 30) (hS : Sim ad (dk, (BK, bS, bN, bV, bT, vA, sA), (ink, cop, wai, O), (nx, he, C), tl) (d, sc, sz, sg, ik, cp, wt, wa, ch, ct, th) cb)
    (hx : ∃ cs' n, CRep Y h' ad cs' ∧ cDayN 3 (dk, (BK, bS, bN, bV, bT, vA, sA), (ink, cop, wai, O), (nx, he, C), tl) cs' n ∧ r = nI n) (hm : ∃ n, mDayN 3 (d, sc, sz, sg, ik, cp, wt, wa, ch, ct, 0) u' n ∧ r2 = nI n) : r = r2 ∧ sOut Y ad h' u' (cb + 3) := by
  obtain ⟨cs', n, hc, hd, e⟩ := hx
  obtain ⟨n2, hm, e2⟩ := hm
  obtain ⟨e3, hs, -⟩ := sim_dayN 3 (by omega) hcb hS.th hC.n40 hd hm
  exact ⟨by rw [e, e2, e3], cs', hc, hs⟩
/-- at the start -/
theorem sim_start {ad : Nat → Nat} {cs : CSt} {df kf : Nat → Int32} (hc : c0St ad cs) (hdf : ∀ i, i < 6 → df i = -1) (hkf : ∀ i, i < 3 → kf i = 100) : Sim ad cs (df, (fun _ => 0), (fun _ => 0), (fun _ => 0), kf, (fun _ => 0), (fun _ => 0), (fun _ => 0), (fun _ => 0), (fun _ => 0), 0) 0 := by
  obtain ⟨dk, ⟨BK, bS, bN, bV, bT, vA, sA⟩, ⟨ink, cop, wai, O⟩, ⟨nx, he, C⟩, tl⟩ := cs
  obtain ⟨h1, h2, h3, h4, h5, h6, h7, h8, h9, h10⟩ := hc
  refine ⟨⟨⟨h2, h3, h4, h5⟩, fun i hi => Or.inl ⟨hdf i hi, h1 i hi⟩, fun i j hi hj => ?_, fun i hi => ⟨0, by omega, rfl⟩⟩, fun s hs => ?_, fun k hk => h10 k, ⟨0, rfl, by omega, by rw [h7], by rw [h8]; rfl⟩, fun k j hk hj => (h9 k j).symm⟩
  · rw [hdf i hi, hdf j hj, h1 i hi, h1 j hj]; exact ⟨fun _ => rfl, fun _ => rfl⟩
  · obtain ⟨q1, q2, q3⟩ := h6 s hs
    refine ⟨by rw [hkf s hs, q1], q2.symm, by rw [q3]; rfl, by omega, fun k hk => ?_⟩
    rw [q3] at hk; omega
/-- what the reference's methods ask of its state -/
theorem Sim.dOK (hS : Sim ad (dk, (BK, bS, bN, bV, bT, vA, sA), (ink, cop, wai, O), (nx, he, C), tl) (d, sc, sz, sg, ik, cp, wt, wa, ch, ct, th) cb) : dOK d := hS.1.dOK
theorem Sim.zOK (hS : Sim ad (dk, (BK, bS, bN, bV, bT, vA, sA), (ink, cop, wai, O), (nx, he, C), tl) (d, sc, sz, sg, ik, cp, wt, wa, ch, ct, th) cb) : zOK sz := hS.1.2.2.2
theorem Sim.wOK (hS : Sim ad (dk, (BK, bS, bN, bV, bT, vA, sA), (ink, cop, wai, O), (nx, he, C), tl) (d, sc, sz, sg, ik, cp, wt, wa, ch, ct, th) cb) : wOK wa := fun s hs => ⟨wai s, (hS.2.1 s hs).2.2.2.1, (hS.2.1 s hs).2.2.1⟩
theorem Sim.c0 (hS : Sim ad (dk, (BK, bS, bN, bV, bT, vA, sA), (ink, cop, wai, O), (nx, he, C), tl) (d, sc, sz, sg, ik, cp, wt, wa, ch, ct, th) cb) (hcb : cb < 2 ^ 30) : ∃ c0, c0OK ct c0 ∧ c0 ≤ cb := by
  obtain ⟨c0, h1, h2, -, -⟩ := hS.2.2.2.1
  exact ⟨c0, ⟨h1, by omega⟩, h2⟩
theorem Sim.k0 (hS : Sim ad (dk, (BK, bS, bN, bV, bT, vA, sA), (ink, cop, wai, O), (nx, he, C), tl) (d, sc, sz, sg, ik, cp, wt, wa, ch, ct, th) cb) {p0 : Int32} (a : isD p0) (q : ¬ d (cl p0) < 0) (z : ¬ 5 < sc (cl (d (cl p0)))) : sc (cl (d (cl p0))) = 0 ∨ sc (cl (d (cl p0))) = 1 ∨ sc (cl (d (cl p0))) = 2 ∨ sc (cl (d (cl p0))) = 3 ∨ sc (cl (d (cl p0))) = 4 ∨ sc (cl (d (cl p0))) = 5 := by
  obtain ⟨k, hk, f, n1, n2, B⟩ := hS.1.pos a.lt q
  have ek : cl (d (cl p0)) = k := by rw [f]; exact cl_nI (by omega)
  rw [ek, B.1] at z ⊢
  exact six B.2.1 (fun y => z (pic6.mp y))
/-- sign: what both see -/
theorem sim_sign {p0 p1 : Int32} {v : Int64} (hS : Sim ad (dk, (BK, bS, bN, bV, bT, vA, sA), (ink, cop, wai, O), (nx, he, C), tl) (d, sc, sz, sg, ik, cp, wt, wa, ch, ct, th) cb)
    (hm : (¬ (isD p0 ∧ ¬ d (cl p0) < 0) ∧ v = 0 ∧ u' = (d, sc, sz, sg, ik, cp, wt, wa, ch, ct, 1)) ∨ ((isD p0 ∧ ¬ d (cl p0) < 0) ∧ ¬ (¬ p1 < 0 ∧ p1 < sz (cl (d (cl p0)))) ∧ v = 0 ∧ u' = (d, sc, sz, sg, ik, cp, wt, wa, ch, ct, 2)) ∨ ((isD p0 ∧ ¬ d (cl p0) < 0) ∧ (¬ p1 < 0 ∧ p1 < sz (cl (d (cl p0)))) ∧ v = sg (cl (40 * d (cl p0) + p1)) ∧ u' = (d, sc, sz, sg, ik, cp, wt, wa, ch, ct, 0))) :
    (¬ (isD p0 ∧ ¬ bS (dk (cl p0)) < 0) ∧ v = 0 ∧ u' = (d, sc, sz, sg, ik, cp, wt, wa, ch, ct, 1)) ∨ ((isD p0 ∧ ¬ bS (dk (cl p0)) < 0) ∧ ¬ (¬ p1 < 0 ∧ ¬ nI (bN (dk (cl p0))) ≤ p1) ∧ v = 0 ∧ u' = (d, sc, sz, sg, ik, cp, wt, wa, ch, ct, 2)) ∨ ((isD p0 ∧ ¬ bS (dk (cl p0)) < 0) ∧ (¬ p1 < 0 ∧ ¬ nI (bN (dk (cl p0))) ≤ p1) ∧ v = cSgn (bS (dk (cl p0))) (bV (dk (cl p0)) (cl p1)) (bT (dk (cl p0)) (cl p1)) ∧ u' = (d, sc, sz, sg, ik, cp, wt, wa, ch, ct, 0)) := by
  have hD := hS.1
  rcases hm with ⟨m, e, e2⟩ | ⟨m, m2, e, e2⟩ | ⟨m, m2, e, e2⟩
  · exact Or.inl ⟨fun z => m ⟨z.1, fun y => z.2 ((hD.sneg z.1.lt).mpr y)⟩, e, e2⟩
  · obtain ⟨k, hk, f, n1, n2, B⟩ := hD.pos m.1.lt m.2
    have ek : cl (d (cl p0)) = k := by rw [f]; exact cl_nI (by omega)
    rw [ek, B.2.2.2.1] at m2
    exact Or.inr (Or.inl ⟨⟨m.1, B.2.1⟩, fun z => m2 ⟨z.1, Int32.not_le.mp z.2⟩, e, e2⟩)
  · obtain ⟨k, hk, f, n1, n2, B⟩ := hD.pos m.1.lt m.2
    have h40 := B.2.2.2.2.1
    have ek : cl (d (cl p0)) = k := by rw [f]; exact cl_nI (by omega)
    rw [ek, B.2.2.2.1] at m2
    refine Or.inr (Or.inr ⟨⟨m.1, B.2.1⟩, ⟨m2.1, Int32.not_le.mpr m2.2⟩, ?_, e2⟩)
    obtain ⟨jj, hj, ej⟩ := nI_of m2.1
    have hjn : jj < bN (dk (cl p0)) := by
      have w2 := m2.2
      rw [ej, nI_ltI hj (by omega)] at w2; exact w2
    have cj : cl p1 = jj := by rw [ej]; exact cl_nI hj
    have ix : cl (40 * d (cl p0) + p1) = 40 * k + jj := by rw [f, ej]; exact cl40 hk (by omega)
    rw [e, ix, cj]
    exact ((B.2.2.2.2.2 jj hjn).sgn).symm
end SM5
