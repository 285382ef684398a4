/-! the class's state, and how the heap holds it -/
abbrev Ord : Type := Int32 × Int32 × Int32 × Int32 × Int32
abbrev BSt : Type := List Nat × (Nat → Int32) × (Nat → Nat) × (Nat → Nat → Int64) × (Nat → Nat → Int32) × (Nat → Nat) × (Nat → Nat)
abbrev SSt : Type := (Nat → Int32) × (Nat → Int32) × (Nat → Nat) × (Nat → Nat → Ord)
abbrev HSt : Type := Nat × Nat × (Nat → Nat → Int32)
abbrev CSt : Type := (Nat → Nat) × BSt × SSt × HSt × (Nat → Int32)
def xR (h : PH) (ad : Nat → Nat) : Prop := pAt h (ad 0) (oX (ad 1) (ad 2) (ad 3) (ad 4) (ad 5) (ad 6))
def dR (Y : Nat → ClassId) (h : PH) (ad dk : Nat → Nat) (BK : List Nat) : Prop := ∃ f, pAt h (ad 3) (aB Y 6 f) ∧ ∀ i, i < 6 → f i = some (dk i) ∧ dk i ∈ BK
def bR (Y : Nat → ClassId) (h : PH) (BK : List Nat) (bS : Nat → Int32) (bN : Nat → Nat) (bV : Nat → Nat → Int64) (bT : Nat → Nat → Int32) (vA sA : Nat → Nat) : Prop :=
  ∀ b, b ∈ BK → pAt h b (oBook (bS b) (vA b) (sA b)) ∧ pAt h (vA b) (aJ Y (bN b) (bV b)) ∧ pAt h (sA b) (aI Y (bN b) (bT b)) ∧ bN b ≤ 40
def nR (ad : Nat → Nat) (BK : List Nat) (vA sA : Nat → Nat) : Prop :=
  (∀ b, b ∈ BK → ∀ c, c ∈ BK → vA b = vA c → b = c) ∧ (∀ b, b ∈ BK → ∀ c, c ∈ BK → sA b = sA c → b = c) ∧ (∀ b, b ∈ BK → sA b ≠ ad 6 ∧ ∀ k, k < 4 → sA b ≠ ad (13 + k)) ∧
  (∀ k, k < 4 → ad (13 + k) ≠ ad 6) ∧ (∀ i j, i < 4 → j < 4 → ad (13 + i) = ad (13 + j) → i = j) ∧ (∀ i j, i < 3 → j < 3 → ad (7 + i) = ad (7 + j) → i = j) ∧ (∀ i j, i < 3 → j < 3 → ad (10 + i) = ad (10 + j) → i = j) ∧ ad 1 ∈ BK ∧ ad 2 ∈ BK
def oPa (i : Nat) (o : Ord) : va_E := oPas (nI i) o.1 o.2.1 o.2.2.1 o.2.2.2.1 o.2.2.2.2
def sR1 (Y : Nat → ClassId) (h : PH) (ad : Nat → Nat) (ink cop : Nat → Int32) (wai : Nat → Nat) (O : Nat → Nat → Ord) (i : Nat) : Prop :=
  pAt h (ad (7 + i)) (oScr (ink i) (cop i) (nI (wai i)) (ad (10 + i))) ∧ wai i ≤ 8 ∧ ∃ f, pAt h (ad (10 + i)) (aP Y 8 f) ∧ ∀ k, k < wai i → ∃ q, f k = some q ∧ pAt h q (oPa i (O i k))
def sR (Y : Nat → ClassId) (h : PH) (ad : Nat → Nat) (ink cop : Nat → Int32) (wai : Nat → Nat) (O : Nat → Nat → Ord) : Prop :=
  (∃ f, pAt h (ad 4) (aS Y 3 f) ∧ ∀ i, i < 3 → f i = some (ad (7 + i))) ∧ ∀ i, i < 3 → sR1 Y h ad ink cop wai O i
def hR (Y : Nat → ClassId) (h : PH) (ad : Nat → Nat) (nx he : Nat) (C : Nat → Nat → Int32) : Prop :=
  pAt h (ad 5) (oChr (ad 13) (ad 14) (ad 15) (ad 16) (nI nx) (nI he)) ∧ (∀ k, k < 4 → pAt h (ad (13 + k)) (aI Y 16 (C k))) ∧ nx < 16 ∧ he ≤ 16
def tR (Y : Nat → ClassId) (h : PH) (ad : Nat → Nat) (tl : Nat → Int32) : Prop := pAt h (ad 6) (aI Y 8 tl)
def CRep (Y : Nat → ClassId) (h : PH) (ad : Nat → Nat) : CSt → Prop
  | (dk, (BK, bS, bN, bV, bT, vA, sA), (ink, cop, wai, O), (nx, he, C), tl) => xR h ad ∧ dR Y h ad dk BK ∧ bR Y h BK bS bN bV bT vA sA ∧ nR ad BK vA sA ∧ sR Y h ad ink cop wai O ∧ hR Y h ad nx he C ∧ tR Y h ad tl
section CRP
variable {Y : Nat → ClassId} {h h' : PH} {L : List Nat} {ad dk : Nat → Nat} {BK : List Nat} {bS : Nat → Int32} {bN : Nat → Nat} {bV : Nat → Nat → Int64} {bT : Nat → Nat → Int32} {vA sA : Nat → Nat} {ink cop : Nat → Int32} {wai : Nat → Nat} {O : Nat → Nat → Ord} {nx he : Nat} {C : Nat → Nat → Int32} {tl : Nat → Int32}
theorem xR.fr (H : xR h ad) (f : pFr h h' L) (n : ad 0 ∉ L) : xR h' ad := f _ _ n H
theorem dR.fr (H : dR Y h ad dk BK) (f : pFr h h' L) (n : ad 3 ∉ L) : dR Y h' ad dk BK := by
  obtain ⟨g, h1, h2⟩ := H
  exact ⟨g, f _ _ n h1, h2⟩
theorem bR.fr (H : bR Y h BK bS bN bV bT vA sA) (f : pFr h h' L) (n : ∀ b, b ∈ BK → b ∉ L ∧ vA b ∉ L ∧ sA b ∉ L) : bR Y h' BK bS bN bV bT vA sA := fun b hb =>
  ⟨f _ _ (n b hb).1 (H b hb).1, f _ _ (n b hb).2.1 (H b hb).2.1, f _ _ (n b hb).2.2 (H b hb).2.2.1, (H b hb).2.2.2⟩
theorem sR1.fr {i : Nat} (H : sR1 Y h ad ink cop wai O i) (f : pFr h h' L) (n1 : ad (7 + i) ∉ L) (n2 : ad (10 + i) ∉ L) (n3 : ∀ q e, pAt h q (.inr (2, e)) → q ∉ L) : sR1 Y h' ad ink cop wai O i := by
  obtain ⟨h1, h2, g, h3, h4⟩ := H
  refine ⟨f _ _ n1 h1, h2, g, f _ _ n2 h3, fun k hk => ?_⟩
  obtain ⟨q, e1, e2⟩ := h4 k hk
  exact ⟨q, e1, f _ _ (n3 q _ e2) e2⟩
theorem sR.fr (H : sR Y h ad ink cop wai O) (f : pFr h h' L) (n0 : ad 4 ∉ L) (n1 : ∀ i, i < 3 → ad (7 + i) ∉ L) (n2 : ∀ i, i < 3 → ad (10 + i) ∉ L) (n3 : ∀ q e, pAt h q (.inr (2, e)) → q ∉ L) : sR Y h' ad ink cop wai O := by
  obtain ⟨⟨g, h1, h2⟩, h3⟩ := H
  exact ⟨⟨g, f _ _ n0 h1, h2⟩, fun i hi => (h3 i hi).fr f (n1 i hi) (n2 i hi) n3⟩
theorem hR.fr (H : hR Y h ad nx he C) (f : pFr h h' L) (n0 : ad 5 ∉ L) (n1 : ∀ k, k < 4 → ad (13 + k) ∉ L) : hR Y h' ad nx he C := ⟨f _ _ n0 H.1, fun k hk => f _ _ (n1 k hk) (H.2.1 k hk), H.2.2⟩
theorem tR.fr (H : tR Y h ad tl) (f : pFr h h' L) (n : ad 6 ∉ L) : tR Y h' ad tl := f _ _ n H
theorem nin1 {a b : Nat} (h : a ≠ b) : a ∉ [b] := by simpa using h
theorem nin2 {a b c : Nat} (h : a ≠ b) (h2 : a ≠ c) : a ∉ [b, c] := by simp [h, h2]
theorem nin5 {a b c d e f : Nat} (h1 : a ≠ b) (h2 : a ≠ c) (h3 : a ≠ d) (h4 : a ≠ e) (h5 : a ≠ f) : a ∉ [b, c, d, e, f] := by simp [h1, h2, h3, h4, h5]
/-- the heap has grown only -/
theorem CRep.grow {cs : CSt} (H : CRep Y h ad cs) (f : pFr h h' []) : CRep Y h' ad cs := by
  obtain ⟨dk, ⟨BK, bS, bN, bV, bT, vA, sA⟩, ⟨ink, cop, wai, O⟩, ⟨nx, he, C⟩, tl⟩ := cs
  obtain ⟨hx, hd, hb, hn, hs, hh, ht⟩ := H
  have n0 : ∀ a : Nat, a ∉ ([] : List Nat) := fun a => by simp
  exact ⟨hx.fr f (n0 _), hd.fr f (n0 _), hb.fr f (fun b _ => ⟨n0 _, n0 _, n0 _⟩), hn, hs.fr f (n0 _) (fun _ _ => n0 _) (fun _ _ => n0 _) (fun _ _ _ => n0 _), hh.fr f (n0 _) (fun _ _ => n0 _), ht.fr f (n0 _)⟩
/-- a book's signs have changed -/
theorem CRep.book (H : CRep Y h ad (dk, (BK, bS, bN, bV, bT, vA, sA), (ink, cop, wai, O), (nx, he, C), tl)) {b : Nat} (hb9 : b ∈ BK) {V : Nat → Int64} {T : Nat → Int32} (f : pFr h h' [vA b, sA b]) (hv : pAt h' (vA b) (aJ Y (bN b) V)) (hs9 : pAt h' (sA b) (aI Y (bN b) T)) :
    CRep Y h' ad (dk, (BK, bS, bN, va_up bV b V, va_up bT b T, vA, sA), (ink, cop, wai, O), (nx, he, C), tl) := by
  obtain ⟨hx, hd, hb, hn, hs, hh, ht⟩ := H
  have fv := (hb b hb9).2.1
  have fs := (hb b hb9).2.2.1
  obtain ⟨g, hg, -⟩ := id hd
  obtain ⟨⟨g4, hg4, -⟩, hs3⟩ := id hs
  refine ⟨hx.fr f (nin2 (hx.kinds fv (by simp)) (hx.kinds fs (by simp))), hd.fr f (nin2 (hg.kinds fv (by simp)) (hg.kinds fs (by simp))), fun c hc => ?_, hn, hs.fr f (nin2 (hg4.kinds fv (by simp)) (hg4.kinds fs (by simp))) (fun i hi => nin2 ((hs3 i hi).1.kinds fv (by simp)) ((hs3 i hi).1.kinds fs (by simp))) (fun i hi => ?_) (fun q e hq => nin2 (hq.kinds fv (by simp)) (hq.kinds fs (by simp))), hh.fr f (nin2 (hh.1.kinds fv (by simp)) (hh.1.kinds fs (by simp))) (fun k hk => nin2 ((hh.2.1 k hk).kinds fv (by simp)) ((hn.2.2.1 b hb9).2 k hk).symm), ht.fr f (nin2 (pAt.kinds ht fv (by simp)) (hn.2.2.1 b hb9).1.symm)⟩
  · have hc9 := hb c hc
    by_cases e : c = b
    · subst e
      rw [va_up_self, va_up_self]
      exact ⟨f _ _ (nin2 (hc9.1.kinds fv (by simp)) (hc9.1.kinds fs (by simp))) hc9.1, hv, hs9, hc9.2.2.2⟩
    · rw [va_up_ne _ _ e, va_up_ne _ _ e]
      exact ⟨f _ _ (nin2 (hc9.1.kinds fv (by simp)) (hc9.1.kinds fs (by simp))) hc9.1, f _ _ (nin2 (fun q => e (hn.1 c hc b hb9 q)) (hc9.2.1.kinds fs (by simp))) hc9.2.1, f _ _ (nin2 (hc9.2.2.1.kinds fv (by simp)) (fun q => e (hn.2.1 c hc b hb9 q))) hc9.2.2.1, hc9.2.2.2⟩
  · obtain ⟨-, -, g9, hg9, -⟩ := hs3 i hi
    exact nin2 (hg9.kinds fv (by simp)) (hg9.kinds fs (by simp))
/-- another thing lies on a desk -/
theorem CRep.desk (H : CRep Y h ad (dk, (BK, bS, bN, bV, bT, vA, sA), (ink, cop, wai, O), (nx, he, C), tl)) {b i : Nat} (hb9 : b ∈ BK) (f : pFr h h' [ad 3]) {g : Nat → Option Nat} (hg0 : pAt h (ad 3) (aB Y 6 g)) (hg1 : ∀ j, j < 6 → g j = some (dk j)) (hv : pAt h' (ad 3) (aB Y 6 (va_up g i (some b)))) :
    CRep Y h' ad (va_up dk i b, (BK, bS, bN, bV, bT, vA, sA), (ink, cop, wai, O), (nx, he, C), tl) := by
  obtain ⟨hx, hd, hb, hn, hs, hh, ht⟩ := H
  obtain ⟨⟨g4, hg4, -⟩, hs3⟩ := id hs
  refine ⟨hx.fr f (nin1 (hx.kinds hg0 (by simp))), ⟨_, hv, fun j hj => ?_⟩, hb.fr f (fun c hc => ⟨nin1 ((hb c hc).1.kinds hg0 (by simp)), nin1 ((hb c hc).2.1.kinds hg0 (by simp)), nin1 ((hb c hc).2.2.1.kinds hg0 (by simp))⟩), hn, hs.fr f ?_ (fun i hi => nin1 ((hs3 i hi).1.kinds hg0 (by simp))) (fun i hi => ?_) (fun q e hq => nin1 (hq.kinds hg0 (by simp))), hh.fr f (nin1 (hh.1.kinds hg0 (by simp))) (fun k hk => nin1 ((hh.2.1 k hk).kinds hg0 (by simp))), ht.fr f (nin1 (pAt.kinds ht hg0 (by simp)))⟩
  · by_cases e : j = i
    · subst e; rw [va_up_self, va_up_self]; exact ⟨rfl, hb9⟩
    · rw [va_up_ne _ _ e, va_up_ne _ _ e]
      obtain ⟨g2, hg2, hg3⟩ := hd
      exact ⟨hg1 j hj, (hg3 j hj).2⟩
  · exact nin1 (hg4.kinds hg0 (by simp))
  · obtain ⟨-, -, g9, hg9, -⟩ := hs3 i hi
    exact nin1 (hg9.kinds hg0 (by simp))
/-- a scribe's numbers have changed -/
theorem CRep.scr (H : CRep Y h ad (dk, (BK, bS, bN, bV, bT, vA, sA), (ink, cop, wai, O), (nx, he, C), tl)) {i : Nat} (hi : i < 3) (f : pFr h h' [ad (7 + i)]) {a b : Int32} (hv : pAt h' (ad (7 + i)) (oScr a b (nI (wai i)) (ad (10 + i)))) :
    CRep Y h' ad (dk, (BK, bS, bN, bV, bT, vA, sA), (upd ink i a, upd cop i b, wai, O), (nx, he, C), tl) := by
  obtain ⟨hx, hd, hb, hn, hs, hh, ht⟩ := H
  obtain ⟨⟨g4, hg4, hg4'⟩, hs3⟩ := id hs
  obtain ⟨g, hg, -⟩ := id hd
  have h0 := (hs3 i hi).1
  refine ⟨hx.fr f (nin1 (hx.kinds h0 (by simp))), hd.fr f (nin1 (hg.kinds h0 (by simp))), hb.fr f (fun c hc => ⟨nin1 ((hb c hc).1.kinds h0 (by simp)), nin1 ((hb c hc).2.1.kinds h0 (by simp)), nin1 ((hb c hc).2.2.1.kinds h0 (by simp))⟩), hn, ⟨⟨g4, f _ _ (nin1 (hg4.kinds h0 (by simp))) hg4, hg4'⟩, fun j hj => ?_⟩, hh.fr f (nin1 (hh.1.kinds h0 (by simp))) (fun k hk => nin1 ((hh.2.1 k hk).kinds h0 (by simp))), ht.fr f (nin1 (pAt.kinds ht h0 (by simp)))⟩
  obtain ⟨q1, q2, g9, q3, q4⟩ := hs3 j hj
  have q4' : ∀ k, k < wai j → ∃ q, g9 k = some q ∧ pAt h' q (oPa j (O j k)) := fun k hk => by
    obtain ⟨q, e1, e2⟩ := q4 k hk
    exact ⟨q, e1, f _ _ (nin1 (e2.kinds h0 (by simp [oPa]))) e2⟩
  have q3' : pAt h' (ad (10 + j)) (aP Y 8 g9) := f _ _ (nin1 (q3.kinds h0 (by simp))) q3
  by_cases e : j = i
  · subst e
    refine ⟨?_, q2, g9, q3', q4'⟩
    rw [pk_us, pk_us]; exact hv
  · refine ⟨?_, q2, g9, q3', q4'⟩
    rw [pk_un e, pk_un e]
    exact f _ _ (nin1 (fun q => e (hn.2.2.2.2.2.1 j i hj hi q))) q1
/-- the tallies have changed -/
theorem CRep.tal (H : CRep Y h ad (dk, (BK, bS, bN, bV, bT, vA, sA), (ink, cop, wai, O), (nx, he, C), tl)) (f : pFr h h' [ad 6]) {tl' : Nat → Int32} (hv : pAt h' (ad 6) (aI Y 8 tl')) :
    CRep Y h' ad (dk, (BK, bS, bN, bV, bT, vA, sA), (ink, cop, wai, O), (nx, he, C), tl') := by
  obtain ⟨hx, hd, hb, hn, hs, hh, ht⟩ := H
  obtain ⟨⟨g4, hg4, hg4'⟩, hs3⟩ := id hs
  obtain ⟨g, hg, -⟩ := id hd
  have h0 : pAt h (ad 6) (aI Y 8 tl) := ht
  refine ⟨hx.fr f (nin1 (hx.kinds h0 (by simp))), hd.fr f (nin1 (hg.kinds h0 (by simp))), hb.fr f (fun c hc => ⟨nin1 ((hb c hc).1.kinds h0 (by simp)), nin1 ((hb c hc).2.1.kinds h0 (by simp)), nin1 (hn.2.2.1 c hc).1⟩), hn, hs.fr f (nin1 (hg4.kinds h0 (by simp))) (fun i hi => nin1 ((hs3 i hi).1.kinds h0 (by simp))) (fun i hi => ?_) (fun q e hq => nin1 (hq.kinds h0 (by simp))), hh.fr f (nin1 (hh.1.kinds h0 (by simp))) (fun k hk => nin1 (hn.2.2.2.1 k hk)), hv⟩
  obtain ⟨-, -, g9, hg9, -⟩ := hs3 i hi
  exact nin1 (hg9.kinds h0 (by simp))
def cRowp (C : Nat → Nat → Int32) (x : Nat) (a b c d : Int32) : Nat → Nat → Int32 := fun k => if k = 0 then upd (C 0) x a else if k = 1 then upd (C 1) x b else if k = 2 then upd (C 2) x c else upd (C 3) x d
/-- a passage comes into the chronicle -/
theorem CRep.chr (H : CRep Y h ad (dk, (BK, bS, bN, bV, bT, vA, sA), (ink, cop, wai, O), (nx, he, C), tl)) (f : pFr h h' [ad 13, ad 14, ad 15, ad 16, ad 5]) {a b c d : Int32} {nx' he' : Nat} (hnx : nx' < 16) (hhe : he' ≤ 16) (h1 : pAt h' (ad 13) (aI Y 16 (upd (C 0) nx a))) (h2 : pAt h' (ad 14) (aI Y 16 (upd (C 1) nx b))) (h3 : pAt h' (ad 15) (aI Y 16 (upd (C 2) nx c))) (h4 : pAt h' (ad 16) (aI Y 16 (upd (C 3) nx d))) (h5 : pAt h' (ad 5) (oChr (ad 13) (ad 14) (ad 15) (ad 16) (nI nx') (nI he'))) :
    CRep Y h' ad (dk, (BK, bS, bN, bV, bT, vA, sA), (ink, cop, wai, O), (nx', he', cRowp C nx a b c d), tl) := by
  obtain ⟨hx, hd, hb, hn, hs, hh, ht⟩ := H
  obtain ⟨⟨g4, hg4, hg4'⟩, hs3⟩ := id hs
  obtain ⟨g, hg, -⟩ := id hd
  have c0 := hh.2.1 0 (by decide)
  have c1 := hh.2.1 1 (by decide)
  have c2 := hh.2.1 2 (by decide)
  have c3 := hh.2.1 3 (by decide)
  have c5 := hh.1
  have key : ∀ {z : Nat} {e : va_E}, pAt h z e → (∀ g9, e ≠ aI Y 16 g9) → (∀ a b c d n m, e ≠ oChr a b c d n m) → z ∉ [ad 13, ad 14, ad 15, ad 16, ad 5] := fun hz n1 n2 => nin5 (hz.kinds c0 (n1 _)) (hz.kinds c1 (n1 _)) (hz.kinds c2 (n1 _)) (hz.kinds c3 (n1 _)) (hz.kinds c5 (n2 _ _ _ _ _ _))
  refine ⟨hx.fr f (key hx (by simp) (by simp)), hd.fr f (key hg (by simp) (by simp)), hb.fr f (fun b hb9 => ⟨key (hb b hb9).1 (by simp) (by simp), key (hb b hb9).2.1 (by simp) (by simp), ?_⟩), hn, hs.fr f (key hg4 (by simp) (by simp)) (fun i hi => key (hs3 i hi).1 (by simp) (by simp)) (fun i hi => ?_) (fun q e hq => key hq (by simp) (by simp)), ⟨h5, fun k hk => ?_, hnx, hhe⟩, ht.fr f ?_⟩
  · have q := (hn.2.2.1 b hb9).2
    exact nin5 (q 0 (by decide)) (q 1 (by decide)) (q 2 (by decide)) (q 3 (by decide)) ((hb b hb9).2.2.1.kinds c5 (by simp))
  · obtain ⟨-, -, g9, hg9, -⟩ := hs3 i hi
    exact key hg9 (by simp) (by simp)
  · rcases (show k = 0 ∨ k = 1 ∨ k = 2 ∨ k = 3 by omega) with rfl | rfl | rfl | rfl
    · exact h1
    · exact h2
    · exact h3
    · exact h4
  · have q := hn.2.2.2.1
    exact nin5 (q 0 (by decide)).symm (q 1 (by decide)).symm (q 2 (by decide)).symm (q 3 (by decide)).symm (pAt.kinds ht c5 (by simp))
def ordUp (O : Nat → Nat → Ord) (i k : Nat) (o : Ord) : Nat → Nat → Ord := va_up O i (va_up (O i) k o)
/-- a scribe's orders have changed: their count, their row -/
theorem CRep.ords (H : CRep Y h ad (dk, (BK, bS, bN, bV, bT, vA, sA), (ink, cop, wai, O), (nx, he, C), tl)) {i : Nat} (hi : i < 3) (f : pFr h h' [ad (10 + i), ad (7 + i)]) {w : Nat} (hw : w ≤ 8) {g : Nat → Option Nat} (hg1 : pAt h' (ad (10 + i)) (aP Y 8 g)) (hv : pAt h' (ad (7 + i)) (oScr (ink i) (cop i) (nI w) (ad (10 + i)))) {Oi : Nat → Ord} (ho : ∀ k, k < w → ∃ q, g k = some q ∧ pAt h q (oPa i (Oi k))) :
    CRep Y h' ad (dk, (BK, bS, bN, bV, bT, vA, sA), (ink, cop, va_up wai i w, va_up O i Oi), (nx, he, C), tl) := by
  obtain ⟨hx, hd, hb, hn, hs, hh, ht⟩ := H
  obtain ⟨⟨g4, hg4, hg4'⟩, hs3⟩ := id hs
  obtain ⟨g0, hg0, -⟩ := id hd
  have h0 := (hs3 i hi).1
  obtain ⟨-, -, g8, hg8, -⟩ := id (hs3 i hi)
  have key : ∀ {z : Nat} {e : va_E}, pAt h z e → (∀ g9, e ≠ aP Y 8 g9) → (∀ a b c d, e ≠ oScr a b c d) → z ∉ [ad (10 + i), ad (7 + i)] := fun hz n1 n2 => nin2 (hz.kinds hg8 (n1 _)) (hz.kinds h0 (n2 _ _ _ _))
  refine ⟨hx.fr f (key hx (by simp) (by simp)), hd.fr f (key hg0 (by simp) (by simp)), hb.fr f (fun c hc => ⟨key (hb c hc).1 (by simp) (by simp), key (hb c hc).2.1 (by simp) (by simp), key (hb c hc).2.2.1 (by simp) (by simp)⟩), hn, ⟨⟨g4, f _ _ (key hg4 (by simp) (by simp)) hg4, hg4'⟩, fun j hj => ?_⟩, hh.fr f (key hh.1 (by simp) (by simp)) (fun k hk => key (hh.2.1 k hk) (by simp) (by simp)), ht.fr f (key ht (by simp) (by simp))⟩
  have pq : ∀ {q : Nat} {e : va_E} (j : Nat) (o : Ord), e = oPa j o → pAt h q e → pAt h' q e := fun j o e1 e2 => f _ _ (key e2 (by rw [e1]; simp [oPa]) (by rw [e1]; simp [oPa])) e2
  by_cases e : j = i
  · subst e
    show pAt h' (ad (7 + j)) (oScr (ink j) (cop j) (nI (va_up wai j w j)) (ad (10 + j))) ∧ va_up wai j w j ≤ 8 ∧ ∃ f, pAt h' (ad (10 + j)) (aP Y 8 f) ∧ ∀ k, k < va_up wai j w j → ∃ q, f k = some q ∧ pAt h' q (oPa j (va_up O j Oi j k))
    rw [va_up_self, va_up_self]
    refine ⟨hv, hw, g, hg1, fun k hk => ?_⟩
    obtain ⟨q, e1, e2⟩ := ho k hk
    exact ⟨q, e1, pq j (Oi k) rfl e2⟩
  · obtain ⟨q1, q2, g9, q3, q4⟩ := hs3 j hj
    show pAt h' (ad (7 + j)) (oScr (ink j) (cop j) (nI (va_up wai i w j)) (ad (10 + j))) ∧ va_up wai i w j ≤ 8 ∧ ∃ f, pAt h' (ad (10 + j)) (aP Y 8 f) ∧ ∀ k, k < va_up wai i w j → ∃ q, f k = some q ∧ pAt h' q (oPa j (va_up O i Oi j k))
    rw [va_up_ne _ _ e, va_up_ne _ _ e]
    refine ⟨f _ _ (nin2 (q1.kinds hg8 (by simp)) (fun q => e (hn.2.2.2.2.2.1 j i hj hi q))) q1, q2, g9, f _ _ (nin2 (fun q => e (hn.2.2.2.2.2.2.1 j i hj hi q)) (q3.kinds h0 (by simp))) q3, fun k hk => ?_⟩
    obtain ⟨q, e1, e2⟩ := q4 k hk
    exact ⟨q, e1, pq j (O j k) rfl e2⟩
/-- a new book -/
theorem CRep.more (H : CRep Y h ad (dk, (BK, bS, bN, bV, bT, vA, sA), (ink, cop, wai, O), (nx, he, C), tl)) {b v so n : Nat} {sc : Int32} {V : Nat → Int64} {T : Nat → Int32} (hb9 : pAt h b (oBook sc v so)) (hv : pAt h v (aJ Y n V)) (hs9 : pAt h so (aI Y n T)) (hn40 : n ≤ 40) (nb : b ∉ BK) (nv : ∀ c, c ∈ BK → vA c ≠ v) (ns : ∀ c, c ∈ BK → sA c ≠ so) (n6 : so ≠ ad 6) (n13 : ∀ k, k < 4 → so ≠ ad (13 + k)) :
    CRep Y h ad (dk, (b :: BK, va_up bS b sc, va_up bN b n, va_up bV b V, va_up bT b T, va_up vA b v, va_up sA b so), (ink, cop, wai, O), (nx, he, C), tl) := by
  obtain ⟨hx, hd, hb, hn, hs, hh, ht⟩ := H
  obtain ⟨g, hg, hg'⟩ := hd
  have neb : ∀ c, c ∈ BK → c ≠ b := fun c hc e => nb (e ▸ hc)
  refine ⟨hx, ⟨g, hg, fun i hi => ⟨(hg' i hi).1, List.mem_cons_of_mem _ (hg' i hi).2⟩⟩, fun c hc => ?_, ⟨fun c hc e9 he => ?_, fun c hc e9 he => ?_, fun c hc => ?_, hn.2.2.2.1, hn.2.2.2.2.1, hn.2.2.2.2.2.1, hn.2.2.2.2.2.2.1, List.mem_cons_of_mem _ hn.2.2.2.2.2.2.2.1, List.mem_cons_of_mem _ hn.2.2.2.2.2.2.2.2⟩, hs, hh, ht⟩
  · rcases List.mem_cons.mp hc with rfl | hc1
    · simp only [va_up_self]; exact ⟨hb9, hv, hs9, hn40⟩
    · have e := neb c hc1
      simp only [va_up_ne _ _ e]; exact hb c hc1
  · rcases List.mem_cons.mp hc with rfl | hc1
    · rcases List.mem_cons.mp he with rfl | he1
      · exact fun _ => rfl
      · rw [va_up_self, va_up_ne _ _ (neb e9 he1)]; exact fun q => absurd q.symm (nv e9 he1)
    · rcases List.mem_cons.mp he with rfl | he1
      · rw [va_up_self, va_up_ne _ _ (neb c hc1)]; exact fun q => absurd q (nv c hc1)
      · rw [va_up_ne _ _ (neb c hc1), va_up_ne _ _ (neb e9 he1)]; exact hn.1 c hc1 e9 he1
  · rcases List.mem_cons.mp hc with rfl | hc1
    · rcases List.mem_cons.mp he with rfl | he1
      · exact fun _ => rfl
      · rw [va_up_self, va_up_ne _ _ (neb e9 he1)]; exact fun q => absurd q.symm (ns e9 he1)
    · rcases List.mem_cons.mp he with rfl | he1
      · rw [va_up_self, va_up_ne _ _ (neb c hc1)]; exact fun q => absurd q (ns c hc1)
      · rw [va_up_ne _ _ (neb c hc1), va_up_ne _ _ (neb e9 he1)]; exact hn.2.1 c hc1 e9 he1
  · rcases List.mem_cons.mp hc with rfl | hc1
    · rw [va_up_self]; exact ⟨n6, n13⟩
    · rw [va_up_ne _ _ (neb c hc1)]; exact hn.2.2.1 c hc1
end CRP
