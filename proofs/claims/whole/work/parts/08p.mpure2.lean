/-! the reference's larger methods, as relations -/
theorem ix40 (b k : Nat) : (40 : Int32) * nI b + nI k = nI (40 * b + k) := by
  rw [show (40 : Int32) = nI 40 from rfl, pk_mul, nI_add]
theorem ix40b (b i k : Nat) : (40 : Int32) * nI b + nI i + nI k = nI (40 * b + i + k) := by
  rw [ix40, nI_add]
theorem cl_nI {n : Nat} (h : n < 2 ^ 31) : cl (nI n) = n := nI_clamp h
theorem in40 {b k : Nat} (hb : b < 6) (hk : k < 40) : vp_in ((40 : Int32) * nI b + nI k) 240 := by
  rw [ix40]; exact vp_in_nI (by omega) (by decide)
theorem in40b {b i k : Nat} (hb : b < 6) (hk : i + k < 40) : vp_in ((40 : Int32) * nI b + nI i + nI k) 240 := by
  rw [ix40b]; exact vp_in_nI (by omega) (by decide)
theorem cl40 {b k : Nat} (hb : b < 6) (hk : k < 40) : cl ((40 : Int32) * nI b + nI k) = 40 * b + k := by
  rw [ix40]; exact nI_clamp (by omega)
theorem cl40b {b i k : Nat} (hb : b < 6) (hk : i + k < 40) : cl ((40 : Int32) * nI b + nI i + nI k) = 40 * b + i + k := by
  rw [ix40b]; exact nI_clamp (by omega)
/-- six books, five other desks -/
theorem pigN : ∀ (n : Nat) (f : Nat → Nat), (∀ j, j ≤ n → f j < n) → ∃ i j, i < j ∧ j ≤ n ∧ f i = f j := by
  intro n
  induction n with
  | zero => intro f h; exact absurd (h 0 (Nat.le_refl 0)) (Nat.not_lt_zero _)
  | succ n ih =>
    intro f h
    by_cases hx : ∃ i, i ≤ n ∧ f i = f (n + 1)
    · obtain ⟨i, hi, e⟩ := hx
      exact ⟨i, n + 1, by omega, Nat.le_refl _, e⟩
    · have hno : ∀ i, i ≤ n → f i ≠ f (n + 1) := fun i hi e => hx ⟨i, hi, e⟩
      obtain ⟨i, j, hij, hj, e⟩ := ih (fun i => if f i = n then f (n + 1) else f i) (fun j hj => by
        have h1 := h j (by omega)
        have h2 := h (n + 1) (Nat.le_refl _)
        have h3 := hno j hj
        show (if f j = n then f (n + 1) else f j) < n
        by_cases hn : f j = n
        · rw [if_pos hn]; omega
        · rw [if_neg hn]; omega)
      have e : (if f i = n then f (n + 1) else f i) = (if f j = n then f (n + 1) else f j) := e
      have h3 := hno i (by omega)
      have h4 := hno j hj
      refine ⟨i, j, hij, by omega, ?_⟩
      by_cases h1 : f i = n
      · by_cases h2 : f j = n
        · omega
        · rw [if_pos h1, if_neg h2] at e; exact absurd e.symm h4
      · by_cases h2 : f j = n
        · rw [if_neg h1, if_pos h2] at e; exact absurd e h3
        · rw [if_neg h1, if_neg h2] at e; exact e
theorem mPig {d : Nat → Int32} {p0 : Int32} (hp : isD p0) (h : ∀ j, j < 6 → mUsed d (nI j) p0) : False := by
  obtain ⟨q, hq, rfl⟩ := hp.nat
  have hex : ∃ w : Nat → Nat, ∀ j, j < 6 → w j < 6 ∧ w j ≠ q ∧ d (w j) = nI j := by
    refine ⟨fun j => if hj : j < 6 then (h j hj).choose else 0, fun j hj => ?_⟩
    simp only [dif_pos hj]
    have hs := (h j hj).choose_spec
    exact ⟨hs.1, fun e => hs.2.1 (by rw [e]), hs.2.2⟩
  obtain ⟨w, hw⟩ := hex
  obtain ⟨i, j, hij, hj, e⟩ := pigN 5 (fun j => if w j < q then w j else w j - 1) (fun j hj => by
    obtain ⟨h1, h2, -⟩ := hw j (by omega)
    show (if w j < q then w j else w j - 1) < 5
    by_cases hn : w j < q
    · rw [if_pos hn]; omega
    · rw [if_neg hn]; omega)
  have e : (if w i < q then w i else w i - 1) = (if w j < q then w j else w j - 1) := e
  obtain ⟨a1, a2, a3⟩ := hw i (by omega)
  obtain ⟨b1, b2, b3⟩ := hw j (by omega)
  have hwe : w i = w j := by
    by_cases h1 : w i < q
    · by_cases h2 : w j < q
      · rw [if_pos h1, if_pos h2] at e; exact e
      · rw [if_pos h1, if_neg h2] at e; omega
    · by_cases h2 : w j < q
      · rw [if_neg h1, if_pos h2] at e; omega
      · rw [if_neg h1, if_neg h2] at e; omega
  have := (nI_eq (by omega) (by omega)).mp (a3.symm.trans (hwe ▸ b3))
  omega
/-- a block of the signs is emptied -/
def mZero (sg : Nat → Int64) (b k : Nat) : Nat → Int64 := fun q => if 40 * b ≤ q ∧ q < 40 * b + k then 0 else sg q
theorem mZero_0 (sg : Nat → Int64) (b : Nat) : mZero sg b 0 = sg := by
  funext q; unfold mZero; rw [if_neg (by omega)]
theorem mZero_s (sg : Nat → Int64) (b k : Nat) : vp_updL (mZero sg b k) (40 * b + k) 0 = mZero sg b (k + 1) := by
  funext q; unfold mZero vp_updL
  by_cases h : q = 40 * b + k
  · rw [if_pos h, if_pos (by omega)]
  · rw [if_neg h]; dsimp only
    by_cases h2 : 40 * b ≤ q ∧ q < 40 * b + k
    · rw [if_pos h2, if_pos (by omega)]
    · rw [if_neg h2, if_neg (by omega)]
/-- copying a stretch: what lies from D + lo to D + hi comes from S on -/
def mCpy (sg : Nat → Int64) (S D lo hi : Nat) : Nat → Int64 := fun q => if D + lo ≤ q ∧ q < D + hi then sg (S + (q - D)) else sg q
theorem mCpy_0 (sg : Nat → Int64) (S D k : Nat) : mCpy sg S D k k = sg := by
  funext q; unfold mCpy; rw [if_neg (by omega)]
theorem mCpy_up (sg : Nat → Int64) (S D lo hi : Nat) (h : lo ≤ hi) : vp_updL (mCpy sg S D lo hi) (D + hi) (sg (S + hi)) = mCpy sg S D lo (hi + 1) := by
  funext q; unfold mCpy vp_updL
  by_cases e : q = D + hi
  · rw [if_pos e, if_pos (by omega), e, Nat.add_sub_cancel_left]
  · rw [if_neg e]; dsimp only
    by_cases h2 : D + lo ≤ q ∧ q < D + hi
    · rw [if_pos h2, if_pos (by omega)]
    · rw [if_neg h2, if_neg (by omega)]
theorem mCpy_dn (sg : Nat → Int64) (S D lo hi : Nat) (h : lo < hi) : vp_updL (mCpy sg S D (lo + 1) hi) (D + lo) (sg (S + lo)) = mCpy sg S D lo hi := by
  funext q; unfold mCpy vp_updL
  by_cases e : q = D + lo
  · rw [if_pos e, if_pos (by omega), e, Nat.add_sub_cancel_left]
  · rw [if_neg e]; dsimp only
    by_cases h2 : D + (lo + 1) ≤ q ∧ q < D + hi
    · rw [if_pos h2, if_pos (by omega)]
    · rw [if_neg h2, if_neg (by omega)]
theorem mCpy_out (sg : Nat → Int64) {S D lo hi q : Nat} (h : q < D + lo ∨ D + hi ≤ q) : mCpy sg S D lo hi q = sg q := by
  unfold mCpy; rw [if_neg (by omega)]
/-- the sign at k of the passage may not stand in the book bt -/
def mBad (sc : Nat → Int32) (sg : Nat → Int64) (bf bt ii k : Nat) : Prop := 5 < sc bf ∧ ¬ mMay (sc bt) (sg (40 * bf + ii + k))
def mStop (sc : Nat → Int32) (sg : Nat → Int64) (bf bt ii nn st : Nat) : Prop := st ≤ nn ∧ (∀ k, k < st → ¬ mBad sc sg bf bt ii k) ∧ (st < nn → mBad sc sg bf bt ii st)
def mFit (i j n zf zt : Int32) : Prop := ¬ i < 0 ∧ ¬ j < 0 ∧ ¬ n < 0 ∧ ¬ zf < n ∧ ¬ zt < n ∧ ¬ zf - n < i ∧ j ≤ zt - n
theorem mFit_nat {i j n : Int32} {nf nt : Nat} (hf : nf ≤ 40) (ht : nt ≤ 40) (h : mFit i j n (nI nf) (nI nt)) : ∃ ii jj nn : Nat, i = nI ii ∧ j = nI jj ∧ n = nI nn ∧ ii + nn ≤ nf ∧ jj + nn ≤ nt := by
  obtain ⟨h1, h2, h3, h4, h5, h6, h7⟩ := h
  obtain ⟨ii, hi, rfl⟩ := nI_of h1
  obtain ⟨jj, hj, rfl⟩ := nI_of h2
  obtain ⟨nn, hn, rfl⟩ := nI_of h3
  rw [nI_ltI (by omega) hn] at h4 h5
  rw [pk_sub (by omega)] at h6 h7
  rw [nI_ltI (by omega) hi] at h6
  rw [nI_leI hj (by omega)] at h7
  exact ⟨ii, jj, nn, rfl, rfl, rfl, by omega, by omega⟩
theorem mUnl_0 {d sc : Nat → Int32} {a b : Int32} (h : mUnl d sc a b = 0) : (¬ d (cl a) = -1 ∧ ¬ d (cl b) = -1) ∧ (¬ d (cl a) = -2 ∧ ¬ d (cl b) = -2) ∧ (sc (cl (d (cl a))) = sc (cl (d (cl b))) ∨ (5 < sc (cl (d (cl a))) ∧ 5 < sc (cl (d (cl b))))) := by
  unfold mUnl at h
  by_cases h1 : d (cl a) = -1 ∨ d (cl b) = -1
  · rw [if_pos h1] at h; exact absurd h (by decide)
  · rw [if_neg h1] at h
    by_cases h2 : d (cl a) = -2 ∨ d (cl b) = -2
    · rw [if_pos h2] at h; exact absurd h (by decide)
    · rw [if_neg h2] at h
      by_cases h3 : sc (cl (d (cl a))) = sc (cl (d (cl b))) ∨ (5 < sc (cl (d (cl a))) ∧ 5 < sc (cl (d (cl b))))
      · exact ⟨⟨fun q => h1 (Or.inl q), fun q => h1 (Or.inr q)⟩, ⟨fun q => h2 (Or.inl q), fun q => h2 (Or.inr q)⟩, h3⟩
      · rw [if_neg h3] at h; exact absurd h (by decide)
theorem mUnl_rng (d sc : Nat → Int32) (a b : Int32) : mUnl d sc a b = -1 ∨ mUnl d sc a b = -2 ∨ mUnl d sc a b = 0 := by
  unfold mUnl
  by_cases h1 : d (cl a) = -1 ∨ d (cl b) = -1
  · rw [if_pos h1]; exact Or.inl rfl
  · rw [if_neg h1]
    by_cases h2 : d (cl a) = -2 ∨ d (cl b) = -2
    · rw [if_pos h2]; exact Or.inr (Or.inl rfl)
    · rw [if_neg h2]
      by_cases h3 : sc (cl (d (cl a))) = sc (cl (d (cl b))) ∨ (5 < sc (cl (d (cl a))) ∧ 5 < sc (cl (d (cl b))))
      · rw [if_pos h3]; exact Or.inr (Or.inr rfl)
      · rw [if_neg h3]; exact Or.inr (Or.inl rfl)
/-- a passage in the reference -/
def mPassP (d sc sz : Nat → Int32) (sg : Nat → Int64) (p0 p1 p2 p3 p4 : Int32) (r : Int32) (sg' : Nat → Int64) : Prop :=
  (¬ mUnl d sc p0 p2 = 0 ∧ r = mUnl d sc p0 p2 ∧ sg' = sg) ∨
  (mUnl d sc p0 p2 = 0 ∧ ¬ mFit p1 p3 p4 (sz (cl (d (cl p0)))) (sz (cl (d (cl p2)))) ∧ r = -3 ∧ sg' = sg) ∨
  (mUnl d sc p0 p2 = 0 ∧ ∃ bf bt ii jj nn nf nt st : Nat, bf < 6 ∧ bt < 6 ∧ d (cl p0) = nI bf ∧ d (cl p2) = nI bt ∧ p1 = nI ii ∧ p3 = nI jj ∧ p4 = nI nn ∧ sz bf = nI nf ∧ sz bt = nI nt ∧ nf ≤ 40 ∧ nt ≤ 40 ∧ ii + nn ≤ nf ∧ jj + nn ≤ nt ∧ mStop sc sg bf bt ii nn st ∧ r = (if st < nn then -10 - nI st else nI nn) ∧ sg' = mCpy sg (40 * bf + ii) (40 * bt + jj) 0 st)
theorem m10 : ∀ k : Fin 41, ¬ (-10 - nI k.val : Int32) = -1 ∧ (-10 - nI k.val : Int32) ≤ -10 := by decide +kernel
theorem mPass_rng {d sc sz : Nat → Int32} {sg : Nat → Int64} {p0 p1 p2 p3 p4 r : Int32} {sg' : Nat → Int64} (h : mPassP d sc sz sg p0 p1 p2 p3 p4 r sg') : r = -1 ∨ r = -2 ∨ r = -3 ∨ (∃ k : Nat, k ≤ 40 ∧ r = nI k) ∨ (∃ k : Nat, k < 40 ∧ r = -10 - nI k) := by
  rcases h with ⟨h1, rfl, -⟩ | ⟨-, -, rfl, -⟩ | ⟨-, bf, bt, ii, jj, nn, nf, nt, st, -, -, -, -, -, -, -, -, -, h1, -, h2, -, h3, rfl, -⟩
  · rcases mUnl_rng d sc p0 p2 with q | q | q
    · exact Or.inl q
    · exact Or.inr (Or.inl q)
    · exact absurd q h1
  · exact Or.inr (Or.inr (Or.inl rfl))
  · by_cases hs : st < nn
    · rw [if_pos hs]; exact Or.inr (Or.inr (Or.inr (Or.inr ⟨st, by omega, rfl⟩)))
    · rw [if_neg hs]; exact Or.inr (Or.inr (Or.inr (Or.inl ⟨nn, by omega, rfl⟩)))
/-- signs that an answer says were copied -/
def mDone (r : Int32) : Int32 := if r ≤ -10 then -10 - r else if 0 < r then r else 0
/-- the tally that an answer falls to -/
def mTal (r : Int32) : Int32 := if ¬ r < 0 then 1 else if r ≤ -10 then 5 else 1 - r
def mCh (ch : Nat → Int32) (at_ s a b r : Int32) : Nat → Int32 := upd (upd (upd (upd ch (cl (4 * at_)) s) (cl (4 * at_ + 1)) a) (cl (4 * at_ + 2)) b) (cl (4 * at_ + 3)) r
def mAt (ct : Nat → Int32) : Int32 := ct 0 - ct 0 / 16 * 16
def mCt (ct : Nat → Int32) (r : Int32) : Nat → Int32 := upd (upd (upd ct 6 (ct 6 + mDone r)) 0 (ct 0 + 1)) (cl (mTal r)) (upd (upd ct 6 (ct 6 + mDone r)) 0 (ct 0 + 1) (cl (mTal r)) + 1)
/-- copy in the reference -/
def mCopyP (u : MS) (p0 p1 p2 p3 p4 p5 : Int32) (r : Int32) (u' : MS) : Prop := match u with
  | (d, sc, sz, sg, ik, cp, wt, wa, ch, ct, _) =>
    (¬ (isS p0 ∧ isD p1 ∧ isD p3) ∧ r = -99 ∧ u' = (d, sc, sz, sg, ik, cp, wt, wa, ch, ct, 0)) ∨
    ((isS p0 ∧ isD p1 ∧ isD p3) ∧ ik (cl p0) < p5 ∧ r = -50 ∧ u' = (d, sc, sz, sg, ik, cp, wt, wa, ch, ct, 0)) ∨
    ((isS p0 ∧ isD p1 ∧ isD p3) ∧ ¬ ik (cl p0) < p5 ∧ ∃ sg', mPassP d sc sz sg p1 p2 p3 p4 p5 r sg' ∧ u' = (d, sc, sz, sg', upd ik (cl p0) (ik (cl p0) - mDone r), upd cp (cl p0) (cp (cl p0) + mDone r), wt, wa, mCh ch (mAt ct) p0 p1 p3 r, mCt ct r, 0))
def c0OK (ct : Nat → Int32) (c0 : Nat) : Prop := ct 0 = nI c0 ∧ c0 < 2 ^ 30
theorem mAt_nat {ct : Nat → Int32} {c0 : Nat} (h : c0OK ct c0) : mAt ct = nI (c0 % 16) := by
  unfold mAt; rw [h.1, show (16 : Int32) = nI 16 from rfl]; exact pk_rem (by have := h.2; omega) (by decide) (by decide)
theorem in4 {c0 : Nat} {ct : Nat → Int32} (h : c0OK ct c0) (k : Nat) (hk : k < 4) : vp_in (4 * mAt ct + nI k) 64 := by
  rw [mAt_nat h, show (4 : Int32) = nI 4 from rfl, pk_mul, nI_add]; exact vp_in_nI (by omega) (by decide)
theorem in4' {c0 : Nat} {ct : Nat → Int32} (h : c0OK ct c0) : vp_in (4 * mAt ct) 64 := by
  rw [mAt_nat h, show (4 : Int32) = nI 4 from rfl, pk_mul]; exact vp_in_nI (by omega) (by decide)
theorem in_le {x M : Int32} {n : Nat} (hM : M.toInt + 1 = n) (h1 : ¬ x < 0) (h2 : x ≤ M) : vp_in x n := by
  rw [vp_in_iff]
  rw [Int32.lt_iff_toInt_lt] at h1
  rw [Int32.le_iff_toInt_le] at h2
  have h0 : (0 : Int32).toInt = 0 := rfl
  omega
def mFil (x : Int32) : Int32 := if x ≤ 1000 then x else 1000
def mRow (ct : Nat → Int32) (k : Int32) : Int32 := (ct 0 - 1 - k) - (ct 0 - 1 - k) / 16 * 16
theorem mRow_nat {ct : Nat → Int32} {c0 k : Nat} (h : c0OK ct c0) (hk : k < c0) : mRow ct (nI k) = nI ((c0 - 1 - k) % 16) := by
  have h2 := h.2
  unfold mRow
  rw [h.1, show (16 : Int32) = nI 16 from rfl, show (1 : Int32) = nI 1 from rfl, pk_sub (by omega), pk_sub (by omega)]
  exact pk_rem (by omega) (by decide) (by decide)
theorem inRow {ct : Nat → Int32} {c0 : Nat} {p0 p1 : Int32} (h : c0OK ct c0) (h1 : ¬ p0 < 0) (h2 : ¬ ct 0 ≤ p0) (h3 : ¬ p1 < 0) (h4 : p1 ≤ 3) : vp_in (4 * mRow ct p0 + p1) 64 := by
  have h5 := h.2
  obtain ⟨k, hk, rfl⟩ := nI_of h1
  rw [h.1, nI_leI (by omega) hk] at h2
  obtain ⟨w, hw, rfl⟩ := vp_in_of (in_le (n := 4) (M := 3) rfl h3 h4) (by decide)
  rw [mRow_nat h (by omega), show (4 : Int32) = nI 4 from rfl, pk_mul, nI_add]
  exact vp_in_nI (by omega) (by decide)
theorem inSign {d sz : Nat → Int32} (hd : dOK d) (hz : zOK sz) {p0 p1 : Int32} (h0 : isD p0) (h1 : ¬ d (cl p0) < 0) (h2 : ¬ p1 < 0) (h3 : p1 < sz (cl (d (cl p0)))) : ∃ b k : Nat, b < 6 ∧ k < 40 ∧ d (cl p0) = nI b ∧ p1 = nI k ∧ (∀ n : Nat, n ≤ 40 → sz b = nI n → k < n) := by
  obtain ⟨b, hb, eb⟩ := (hd.pos h0 h1).nat
  rw [eb, cl_nI (by omega)] at h3
  obtain ⟨n, hn, en⟩ := hz b hb
  obtain ⟨k, hk, rfl⟩ := nI_of h2
  rw [en, nI_ltI hk (by omega)] at h3
  refine ⟨b, k, hb, by omega, eb, rfl, fun n' hn' en' => ?_⟩
  rw [en] at en'
  have := (nI_eq (by omega) (by omega)).mp en'
  omega
theorem in40v {v p1 : Int32} {b k : Nat} (hb : b < 6) (hk : k < 40) (e1 : v = nI b) (e2 : p1 = nI k) : vp_in (40 * v + p1) 240 := by
  rw [e1, e2]; exact in40 hb hk
def wOK (wa : Nat → Int32) : Prop := ∀ s, s < 3 → ∃ w, w ≤ 8 ∧ wa s = nI w
def mOrdAt (p0 w : Int32) : Int32 := 5 * (8 * p0 + w)
theorem mOrdAt_nat {s w : Nat} : mOrdAt (nI s) (nI w) = nI (5 * (8 * s + w)) := by
  unfold mOrdAt; rw [show (8 : Int32) = nI 8 from rfl, show (5 : Int32) = nI 5 from rfl, pk_mul, nI_add, pk_mul]
theorem inOrd {wa : Nat → Int32} (hw : wOK wa) {p0 : Int32} (h0 : isS p0) (h8 : ¬ wa (cl p0) = 8) : ∃ s w : Nat, s < 3 ∧ w < 8 ∧ p0 = nI s ∧ wa (cl p0) = nI w ∧ ∀ k, k < 5 → vp_in (mOrdAt p0 (wa (cl p0)) + nI k) 120 ∧ cl (mOrdAt p0 (wa (cl p0)) + nI k) = 5 * (8 * s + w) + k := by
  obtain ⟨s, hs, rfl⟩ := h0.nat
  obtain ⟨w, hw8, ew⟩ := hw (cl (nI s)) h0.lt
  have : w ≠ 8 := fun q => h8 (by rw [ew, q]; rfl)
  refine ⟨s, w, hs, by omega, rfl, ew, fun k hk => ?_⟩
  rw [ew, mOrdAt_nat, nI_add]
  exact ⟨vp_in_nI (by omega) (by decide), cl_nI (by omega)⟩
theorem inOrd0 {x : Int32} (h : vp_in (x + nI 0) 120) : vp_in x 120 := by rw [nI_0] at h; simpa using h
def mWt (wt : Nat → Int32) (at_ a i b j n : Int32) : Nat → Int32 := upd (upd (upd (upd (upd wt (cl at_) a) (cl (at_ + 1)) i) (cl (at_ + 2)) b) (cl (at_ + 3)) j) (cl (at_ + 4)) n
/-- the sign that write makes -/
def mSgn (s sort : Int32) (v : Int64) : Int64 := if 5 < s then (if sort = 0 then 0 else 4 * jsh v 32 + sort.toInt64) else mCut s v
def mWriteP (u : MS) (p0 p1 p2 : Int32) (v : Int64) (r : Int32) (u' : MS) : Prop := match u with
  | (d, sc, sz, sg, ik, cp, wt, wa, ch, ct, _) =>
    (¬ isD p0 ∧ r = -99 ∧ u' = (d, sc, sz, sg, ik, cp, wt, wa, ch, ct, 0)) ∨
    (isD p0 ∧ (¬ d (cl p0) < 0 ∧ 5 < sc (cl (d (cl p0))) ∧ ¬ (¬ p2 < 0 ∧ p2 ≤ 2)) ∧ r = -99 ∧ u' = (d, sc, sz, sg, ik, cp, wt, wa, ch, ct, 0)) ∨
    (isD p0 ∧ d (cl p0) < 0 ∧ r = d (cl p0) ∧ u' = (d, sc, sz, sg, ik, cp, wt, wa, ch, ct, 0)) ∨
    (isD p0 ∧ ¬ d (cl p0) < 0 ∧ (5 < sc (cl (d (cl p0))) → ¬ p2 < 0 ∧ p2 ≤ 2) ∧ ¬ (¬ p1 < 0 ∧ p1 < sz (cl (d (cl p0)))) ∧ r = -3 ∧ u' = (d, sc, sz, sg, ik, cp, wt, wa, ch, ct, 0)) ∨
    (isD p0 ∧ ¬ d (cl p0) < 0 ∧ (5 < sc (cl (d (cl p0))) → ¬ p2 < 0 ∧ p2 ≤ 2) ∧ (¬ p1 < 0 ∧ p1 < sz (cl (d (cl p0)))) ∧ (5 < sc (cl (d (cl p0))) ∧ ¬ mMay (sc (cl (d (cl p0)))) (mSgn (sc (cl (d (cl p0)))) p2 v)) ∧ r = -10 ∧ u' = (d, sc, sz, sg, ik, cp, wt, wa, ch, ct, 0)) ∨
    (isD p0 ∧ ¬ d (cl p0) < 0 ∧ (5 < sc (cl (d (cl p0))) → ¬ p2 < 0 ∧ p2 ≤ 2) ∧ (¬ p1 < 0 ∧ p1 < sz (cl (d (cl p0)))) ∧ (5 < sc (cl (d (cl p0))) → mMay (sc (cl (d (cl p0)))) (mSgn (sc (cl (d (cl p0)))) p2 v)) ∧ r = 0 ∧ u' = (d, sc, sz, vp_updL sg (cl (40 * d (cl p0) + p1)) (mSgn (sc (cl (d (cl p0)))) p2 v), ik, cp, wt, wa, ch, ct, 0))
