/-! the class beside the reference -/
def SgnR (s : Int32) (v : Int64) (t : Int32) (g : Int64) : Prop :=
  (6 ≤ s → g = 4 * v + t.toInt64 ∧ (t = 0 ∨ t = 1 ∨ t = 2) ∧ v = v.toInt32.toInt64) ∧ (¬ 6 ≤ s → g = v ∧ t = 0)
def BookR (sc sz : Nat → Int32) (sg : Nat → Int64) (s : Int32) (n : Nat) (V : Nat → Int64) (T : Nat → Int32) (k : Nat) : Prop :=
  sc k = s ∧ ¬ s < 0 ∧ s ≤ 8 ∧ sz k = nI n ∧ n ≤ 40 ∧ ∀ p, p < n → SgnR s (V p) (T p) (sg (40 * k + p))
def DeskR (ad : Nat → Nat) (bS : Nat → Int32) (bN : Nat → Nat) (bV : Nat → Nat → Int64) (bT : Nat → Nat → Int32) (sc sz : Nat → Int32) (sg : Nat → Int64) (v : Int32) (b : Nat) : Prop :=
  (v = -1 ∧ b = ad 1) ∨ (v = -2 ∧ b = ad 2) ∨ ∃ k, k < 6 ∧ v = nI k ∧ b ≠ ad 1 ∧ b ≠ ad 2 ∧ BookR sc sz sg (bS b) (bN b) (bV b) (bT b) k
def SD (ad dk : Nat → Nat) (bS : Nat → Int32) (bN : Nat → Nat) (bV : Nat → Nat → Int64) (bT : Nat → Nat → Int32) (d sc sz : Nat → Int32) (sg : Nat → Int64) : Prop :=
  (bS (ad 1) = -1 ∧ bN (ad 1) = 0 ∧ bS (ad 2) = -2 ∧ bN (ad 2) = 0) ∧ (∀ i, i < 6 → DeskR ad bS bN bV bT sc sz sg (d i) (dk i)) ∧ (∀ i j, i < 6 → j < 6 → (d i = d j ↔ dk i = dk j)) ∧ zOK sz
def OrdR (wt : Nat → Int32) (s k : Nat) (o : Ord) : Prop := wt (5 * (8 * s + k)) = o.1 ∧ wt (5 * (8 * s + k) + 1) = o.2.1 ∧ wt (5 * (8 * s + k) + 2) = o.2.2.1 ∧ wt (5 * (8 * s + k) + 3) = o.2.2.2.1 ∧ wt (5 * (8 * s + k) + 4) = o.2.2.2.2
def SS (ink cop : Nat → Int32) (wai : Nat → Nat) (O : Nat → Nat → Ord) (ik cp wt wa : Nat → Int32) : Prop :=
  ∀ s, s < 3 → ik s = ink s ∧ cp s = cop s ∧ wa s = nI (wai s) ∧ wai s ≤ 8 ∧ ∀ k, k < wai s → OrdR wt s k (O s k)
def ST (tl ct : Nat → Int32) : Prop := ∀ k, k < 8 → tl k = ct k
def SH (nx he : Nat) (C : Nat → Nat → Int32) (ch ct : Nat → Int32) (cb : Nat) : Prop :=
  (∃ c0, ct 0 = nI c0 ∧ c0 ≤ cb ∧ nx = c0 % 16 ∧ he = (if c0 < 16 then c0 else 16)) ∧ ∀ k j, k < 4 → j < 16 → ch (4 * j + k) = C k j
def Sim (ad : Nat → Nat) (cs : CSt) (u : MS) (cb : Nat) : Prop := match cs, u with
  | (dk, (_, bS, bN, bV, bT, _, _), (ink, cop, wai, O), (nx, he, C), tl), (d, sc, sz, sg, ik, cp, wt, wa, ch, ct, _) => SD ad dk bS bN bV bT d sc sz sg ∧ SS ink cop wai O ik cp wt wa ∧ ST tl ct ∧ SH nx he C ch ct cb
theorem SH.up {nx he : Nat} {C : Nat → Nat → Int32} {ch ct : Nat → Int32} {cb cb' : Nat} (h : SH nx he C ch ct cb) (hc : cb ≤ cb') : SH nx he C ch ct cb' := by
  obtain ⟨⟨c0, h1, h2, h3, h4⟩, h5⟩ := h
  exact ⟨⟨c0, h1, by omega, h3, h4⟩, h5⟩
section SDL
variable {ad dk : Nat → Nat} {bS : Nat → Int32} {bN : Nat → Nat} {bV : Nat → Nat → Int64} {bT : Nat → Nat → Int32} {d sc sz : Nat → Int32} {sg : Nat → Int64}
theorem nIm1 {k : Nat} (h : k < 6) : ¬ nI k = -1 := by
  rcases (show k = 0 ∨ k = 1 ∨ k = 2 ∨ k = 3 ∨ k = 4 ∨ k = 5 by omega) with rfl | rfl | rfl | rfl | rfl | rfl <;> decide
theorem nIm2 {k : Nat} (h : k < 6) : ¬ nI k = -2 := by
  rcases (show k = 0 ∨ k = 1 ∨ k = 2 ∨ k = 3 ∨ k = 4 ∨ k = 5 by omega) with rfl | rfl | rfl | rfl | rfl | rfl <;> decide
theorem SD.dOK (h : SD ad dk bS bN bV bT d sc sz sg) : dOK d := by
  intro i hi
  rcases h.2.1 i hi with ⟨e, -⟩ | ⟨e, -⟩ | ⟨k, hk, e, -⟩
  · exact Or.inl e
  · exact Or.inr (Or.inl e)
  · exact Or.inr (Or.inr (by rw [e]; exact nI_isD hk))
theorem SD.n12 (h : SD ad dk bS bN bV bT d sc sz sg) : ad 1 ≠ ad 2 := fun e => by
  have h1 := h.1.1
  rw [e, h.1.2.2.1] at h1
  exact absurd h1 (by decide)
/-- the script of what lies on a desk, as both see it -/
theorem SD.neg (h : SD ad dk bS bN bV bT d sc sz sg) {i : Nat} (hi : i < 6) (hn : d i < 0) : bS (dk i) = d i := by
  rcases h.2.1 i hi with ⟨e, e2⟩ | ⟨e, e2⟩ | ⟨k, hk, e, -⟩
  · rw [e, e2]; exact h.1.1
  · rw [e, e2]; exact h.1.2.2.1
  · rw [e] at hn; exact absurd hn (nI_pos (by omega))
theorem SD.pos (h : SD ad dk bS bN bV bT d sc sz sg) {i : Nat} (hi : i < 6) (hn : ¬ d i < 0) : ∃ k, k < 6 ∧ d i = nI k ∧ dk i ≠ ad 1 ∧ dk i ≠ ad 2 ∧ BookR sc sz sg (bS (dk i)) (bN (dk i)) (bV (dk i)) (bT (dk i)) k := by
  rcases h.2.1 i hi with ⟨e, -⟩ | ⟨e, -⟩ | q
  · rw [e] at hn; exact absurd (by decide) hn
  · rw [e] at hn; exact absurd (by decide) hn
  · exact q
theorem SD.sneg (h : SD ad dk bS bN bV bT d sc sz sg) {i : Nat} (hi : i < 6) : bS (dk i) < 0 ↔ d i < 0 := by
  constructor
  · intro q
    by_cases hn : d i < 0
    · exact hn
    · obtain ⟨k, -, -, -, -, hB⟩ := h.pos hi hn
      exact absurd q hB.2.1
  · intro q; rw [h.neg hi q]; exact q
/-- another thing on a desk -/
theorem SD.lay (h : SD ad dk bS bN bV bT d sc sz sg) {i b : Nat} {v : Int32} (hv : DeskR ad bS bN bV bT sc sz sg v b) (hj : ∀ j, j < 6 → j ≠ i → (v = d j ↔ b = dk j)) : SD ad (va_up dk i b) bS bN bV bT (upd d i v) sc sz sg := by
  refine ⟨h.1, fun j hj6 => ?_, fun j l hj6 hl6 => ?_, h.2.2.2⟩
  · by_cases e : j = i
    · subst e; rw [pk_us, va_up_self]; exact hv
    · rw [pk_un e, va_up_ne _ _ e]; exact h.2.1 j hj6
  · by_cases e : j = i
    · subst e
      by_cases e2 : l = j
      · subst e2; simp
      · rw [pk_us, va_up_self, pk_un e2, va_up_ne _ _ e2]; exact hj l hl6 e2
    · by_cases e2 : l = i
      · subst e2
        rw [pk_us, va_up_self, pk_un e, va_up_ne _ _ e]
        exact ⟨fun q => ((hj j hj6 e).mp q.symm).symm, fun q => ((hj j hj6 e).mpr q.symm).symm⟩
      · rw [pk_un e, pk_un e2, va_up_ne _ _ e, va_up_ne _ _ e2]; exact h.2.2.1 j l hj6 hl6
theorem SD.stone (h : SD ad dk bS bN bV bT d sc sz sg) (i : Nat) : SD ad (va_up dk i (ad 2)) bS bN bV bT (upd d i (-2)) sc sz sg := by
  refine h.lay (Or.inr (Or.inl ⟨rfl, rfl⟩)) (fun j hj _ => ?_)
  rcases h.2.1 j hj with ⟨e, e2⟩ | ⟨e, e2⟩ | ⟨k, hk, e, -, n2, -⟩
  · rw [e, e2]; exact ⟨fun q => absurd q (by decide), fun q => absurd q.symm h.n12⟩
  · rw [e, e2]; exact ⟨fun _ => rfl, fun _ => rfl⟩
  · rw [e]; exact ⟨fun q => absurd q.symm (nIm2 hk), fun q => absurd q.symm n2⟩
theorem SD.clear (h : SD ad dk bS bN bV bT d sc sz sg) (i : Nat) : SD ad (va_up dk i (ad 1)) bS bN bV bT (upd d i (-1)) sc sz sg := by
  refine h.lay (Or.inl ⟨rfl, rfl⟩) (fun j hj _ => ?_)
  rcases h.2.1 j hj with ⟨e, e2⟩ | ⟨e, e2⟩ | ⟨k, hk, e, n1, -, -⟩
  · rw [e, e2]; exact ⟨fun _ => rfl, fun _ => rfl⟩
  · rw [e, e2]; exact ⟨fun q => absurd q (by decide), fun q => absurd q h.n12⟩
  · rw [e]; exact ⟨fun q => absurd q.symm (nIm1 hk), fun q => absurd q.symm n1⟩
theorem SD.share (h : SD ad dk bS bN bV bT d sc sz sg) {a : Nat} (ha : a < 6) (i : Nat) : SD ad (va_up dk i (dk a)) bS bN bV bT (upd d i (d a)) sc sz sg :=
  h.lay (h.2.1 a ha) (fun j hj _ => h.2.2.1 a j ha hj)
/-- a book's signs change, in both -/
theorem SD.book (h : SD ad dk bS bN bV bT d sc sz sg) {i k : Nat} (hi : i < 6) (hk : k < 6) (hd : d i = nI k) {V : Nat → Int64} {T : Nat → Int32} {sg' : Nat → Int64} (ho : ∀ q, (q < 40 * k ∨ 40 * k + 40 ≤ q) → sg' q = sg q) (hs : ∀ p, p < bN (dk i) → SgnR (bS (dk i)) (V p) (T p) (sg' (40 * k + p))) :
    SD ad dk bS bN (va_up bV (dk i) V) (va_up bT (dk i) T) d sc sz sg' := by
  refine ⟨h.1, fun j hj => ?_, h.2.2.1, h.2.2.2⟩
  rcases h.2.1 j hj with q | q | ⟨k', hk', e, n1, n2, hB⟩
  · exact Or.inl q
  · exact Or.inr (Or.inl q)
  · refine Or.inr (Or.inr ⟨k', hk', e, n1, n2, ?_⟩)
    obtain ⟨b1, b2, b3, b4, b5, b6⟩ := hB
    by_cases e2 : dk j = dk i
    · have e3 : d j = d i := (h.2.2.1 j i hj hi).mpr e2
      have e4 : k' = k := (nI_eq (by omega) (by omega)).mp (by rw [← e, e3, hd])
      subst e4
      rw [e2] at b1 b2 b3 b4 b5 ⊢
      rw [va_up_self, va_up_self]
      exact ⟨b1, b2, b3, b4, b5, hs⟩
    · rw [va_up_ne _ _ e2, va_up_ne _ _ e2]
      refine ⟨b1, b2, b3, b4, b5, fun p hp => ?_⟩
      have e4 : k' ≠ k := fun q => e2 ((h.2.2.1 j i hj hi).mp (by rw [e, hd, q]))
      rw [ho (40 * k' + p) (by omega)]
      exact b6 p hp
/-- a new book, in both -/
theorem SD.bind (h : SD ad dk bS bN bV bT d sc sz sg) {BK : List Nat} (hB : ∀ j, j < 6 → dk j ∈ BK) (h1 : ad 1 ∈ BK) (h2 : ad 2 ∈ BK) {b k i n : Nat} {p1 p2 : Int32} (nb : b ∉ BK) (hi : i < 6) (hk : k < 6) (hu : ¬ mUsed d (nI k) (nI i)) (hp1 : ¬ p1 < 0) (hp2 : p1 ≤ 8) (hn : n ≤ 40) (en : p2 = nI n) :
    SD ad (va_up dk i b) (va_up bS b p1) (va_up bN b n) (va_up bV b (fun _ => 0)) (va_up bT b (fun _ => 0)) (upd d i (nI k)) (upd sc k p1) (upd sz k p2) (mZero sg k 40) := by
  have n1 : ad 1 ≠ b := fun q => nb (q ▸ h1)
  have n2 : ad 2 ≠ b := fun q => nb (q ▸ h2)
  have nj : ∀ j, j < 6 → dk j ≠ b := fun j hj q => nb (q ▸ hB j hj)
  have hu' : ∀ j, j < 6 → j ≠ i → d j ≠ nI k := fun j hj e q => hu ⟨j, hj, fun z => e ((nI_eq (by omega) (by omega)).mp z), q⟩
  refine ⟨by rw [va_up_ne _ _ n1, va_up_ne _ _ n1, va_up_ne _ _ n2, va_up_ne _ _ n2]; exact h.1, fun j hj => ?_, fun j l hj hl => ?_, fun l hl => ?_⟩
  · by_cases e : j = i
    · subst e
      rw [pk_us, va_up_self]
      refine Or.inr (Or.inr ⟨k, hk, rfl, n1.symm, n2.symm, ?_⟩)
      rw [va_up_self, va_up_self, va_up_self, va_up_self]
      refine ⟨pk_us, hp1, hp2, by rw [pk_us]; exact en, hn, fun p hp => ?_⟩
      have : mZero sg k 40 (40 * k + p) = 0 := by unfold mZero; rw [if_pos (by omega)]
      rw [this]
      exact ⟨fun _ => ⟨show (0 : Int64) = 4 * 0 + (0 : Int32).toInt64 by decide +kernel, Or.inl rfl, sx0⟩, fun _ => ⟨rfl, rfl⟩⟩
    · rw [pk_un e, va_up_ne _ _ e]
      rcases h.2.1 j hj with q | q | ⟨k', hk', e', m1, m2, hb⟩
      · exact Or.inl q
      · exact Or.inr (Or.inl q)
      · refine Or.inr (Or.inr ⟨k', hk', e', m1, m2, ?_⟩)
        have e4 : k' ≠ k := fun q => hu' j hj e (by rw [e', q])
        rw [va_up_ne _ _ (nj j hj), va_up_ne _ _ (nj j hj), va_up_ne _ _ (nj j hj), va_up_ne _ _ (nj j hj)]
        obtain ⟨b1, b2, b3, b4, b5, b6⟩ := hb
        refine ⟨by rw [pk_un e4]; exact b1, b2, b3, by rw [pk_un e4]; exact b4, b5, fun p hp => ?_⟩
        have : mZero sg k 40 (40 * k' + p) = sg (40 * k' + p) := by unfold mZero; rw [if_neg (by omega)]
        rw [this]; exact b6 p hp
  · by_cases e : j = i
    · subst e
      by_cases e2 : l = j
      · subst e2; simp
      · rw [pk_us, va_up_self, pk_un e2, va_up_ne _ _ e2]
        exact ⟨fun q => absurd q.symm (hu' l hl e2), fun q => absurd q.symm (nj l hl)⟩
    · by_cases e2 : l = i
      · subst e2
        rw [pk_us, va_up_self, pk_un e, va_up_ne _ _ e]
        exact ⟨fun q => absurd q (hu' j hj e), fun q => absurd q (nj j hj)⟩
      · rw [pk_un e, pk_un e2, va_up_ne _ _ e, va_up_ne _ _ e2]; exact h.2.2.1 j l hj hl
  · by_cases e : l = k
    · subst e; rw [pk_us]; exact ⟨n, hn, en⟩
    · rw [pk_un e]; exact h.2.2.2 l hl
end SDL
/-- pictures: 6 and more, as both sides ask -/
theorem pic6 {s : Int32} : 6 ≤ s ↔ 5 < s := by
  rw [Int32.le_iff_toInt_le, Int32.lt_iff_toInt_lt, show (6 : Int32).toInt = 6 from rfl, show (5 : Int32).toInt = 5 from rfl]; omega
theorem nine {s : Int32} (h1 : ¬ s < 0) (h2 : s ≤ 8) : ∃ k : Nat, k ≤ 8 ∧ s = nI k := nI_of2 (M := 8) (n := 8) rfl h1 h2
theorem may_adm {s t : Int32} (h1 : ¬ s < 0) (h2 : s ≤ 8) (ht : t = 0 ∨ t = 1 ∨ t = 2) : (s < 7 ∨ t = 0 ∨ t = s - 6) ↔ cAdm s t := by
  obtain ⟨k, hk, rfl⟩ := nine h1 h2
  rcases (show k = 0 ∨ k = 1 ∨ k = 2 ∨ k = 3 ∨ k = 4 ∨ k = 5 ∨ k = 6 ∨ k = 7 ∨ k = 8 by omega) with rfl | rfl | rfl | rfl | rfl | rfl | rfl | rfl | rfl <;> rcases ht with rfl | rfl | rfl <;> decide
theorem SgnR.may {s s2 : Int32} {v : Int64} {t : Int32} {g : Int64} (h : SgnR s v t g) (hp : 6 ≤ s) (h1 : ¬ s2 < 0) (h2 : s2 ≤ 8) : mMay s2 g ↔ cAdm s2 t := by
  obtain ⟨e, ht, hv⟩ := h.1 hp
  unfold mMay
  rw [e, pic_sort hv ht]
  exact may_adm h1 h2 ht
theorem SgnR.adm0 {s s2 : Int32} {v : Int64} {t : Int32} {g : Int64} (h : SgnR s v t g) (hp : ¬ 6 ≤ s) : cAdm s2 t := by
  rw [(h.2 hp).2]; exact ⟨fun _ => by decide, fun _ => by decide⟩
theorem SgnR.eq {s1 s2 : Int32} {v w : Int64} {t r : Int32} {g k : Int64} (h1 : SgnR s1 v t g) (h2 : SgnR s2 w r k) (ha : s1 = s2 ∨ (6 ≤ s1 ∧ 6 ≤ s2)) : g = k ↔ (v = w ∧ t = r) := by
  by_cases hp : 6 ≤ s1
  · have hp2 : 6 ≤ s2 := by
      rcases ha with e | e
      · rw [← e]; exact hp
      · exact e.2
    obtain ⟨e1, t1, v1⟩ := h1.1 hp
    obtain ⟨e2, t2, v2⟩ := h2.1 hp2
    rw [e1, e2]; exact pic_inj v1 v2 t1 t2
  · have hp2 : ¬ 6 ≤ s2 := by
      rcases ha with e | e
      · rw [← e]; exact hp
      · exact absurd e.1 hp
    obtain ⟨e1, t1⟩ := h1.2 hp
    obtain ⟨e2, t2⟩ := h2.2 hp2
    rw [e1, e2, t1, t2]; simp
theorem SgnR.kind {s1 s2 : Int32} {v : Int64} {t : Int32} {g : Int64} (h : SgnR s1 v t g) (ha : s1 = s2 ∨ (6 ≤ s1 ∧ 6 ≤ s2)) : SgnR s2 v t g := by
  rcases ha with e | e
  · rw [← e]; exact h
  · exact ⟨fun _ => h.1 e.1, fun q => absurd e.2 q⟩
theorem SgnR.sgn {s : Int32} {v : Int64} {t : Int32} {g : Int64} (h : SgnR s v t g) : cSgn s v t = g := by
  unfold cSgn
  by_cases hp : 6 ≤ s
  · rw [if_pos hp]; exact (h.1 hp).1.symm
  · rw [if_neg hp]; exact (h.2 hp).1.symm
