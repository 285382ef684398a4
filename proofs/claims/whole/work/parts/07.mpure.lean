/-! the reference: what its methods do, as relations over its state -/
abbrev isD (d : Int32) : Prop := ¬ d < 0 ∧ ¬ 6 ≤ d
abbrev isS (d : Int32) : Prop := ¬ d < 0 ∧ ¬ 3 ≤ d
theorem in_of {x N : Int32} {n : Nat} (hN : N.toInt = n) (h1 : ¬ x < 0) (h2 : ¬ N ≤ x) : vp_in x n := by
  rw [vp_in_iff]
  rw [Int32.lt_iff_toInt_lt] at h1
  rw [Int32.le_iff_toInt_le] at h2
  have h0 : (0 : Int32).toInt = 0 := rfl
  omega
theorem isD.in {d : Int32} (h : isD d) : vp_in d 6 := in_of (N := 6) rfl h.1 h.2
theorem isS.in {d : Int32} (h : isS d) : vp_in d 3 := in_of (N := 3) rfl h.1 h.2
theorem isD.nat {d : Int32} (h : isD d) : ∃ j : Nat, j < 6 ∧ d = nI j := vp_in_of h.in (by decide)
theorem isS.nat {d : Int32} (h : isS d) : ∃ j : Nat, j < 3 ∧ d = nI j := vp_in_of h.in (by decide)
theorem nI_isD {j : Nat} (h : j < 6) : isD (nI j) := ⟨nI_pos (by omega), nI_ge h (by decide)⟩
theorem nI_isS {j : Nat} (h : j < 3) : isS (nI j) := ⟨nI_pos (by omega), nI_ge h (by decide)⟩
theorem isD.lt {d : Int32} (h : isD d) : cl d < 6 := by
  obtain ⟨j, hj, rfl⟩ := h.nat
  show (nI j).toNatClampNeg < 6
  rw [nI_clamp (by omega)]; exact hj
theorem isS.lt {d : Int32} (h : isS d) : cl d < 3 := by
  obtain ⟨j, hj, rfl⟩ := h.nat
  show (nI j).toNatClampNeg < 3
  rw [nI_clamp (by omega)]; exact hj
def mUsed (d : Nat → Int32) (b bs : Int32) : Prop := ∃ j, j < 6 ∧ nI j ≠ bs ∧ d j = b
def mso (v : Int64) : Int32 := (v &&& 3).toInt32
def mMay (s : Int32) (v : Int64) : Prop := s < 7 ∨ mso v = 0 ∨ mso v = s - 6
def jsh (v : Int64) (k : Int32) : Int64 := (v <<< (k.toInt64 &&& 63)) >>> (k.toInt64 &&& 63)
def mCut (k : Int32) (v : Int64) : Int64 := if k = 0 then jsh v 56 else if k = 1 then v &&& 65535 else if k = 2 then jsh v 48 else if k = 3 then jsh v 32 else if k = 4 then v else v &&& 1
/-- a desk holds nothing, a stone, or one of the six books -/
def dOK (d : Nat → Int32) : Prop := ∀ i, i < 6 → d i = -1 ∨ d i = -2 ∨ isD (d i)
def zOK (z : Nat → Int32) : Prop := ∀ i, i < 6 → ∃ n, n ≤ 40 ∧ z i = nI n
theorem dOK.at {d : Nat → Int32} (h : dOK d) {a : Int32} (ha : isD a) (h1 : ¬ d (cl a) = -1) (h2 : ¬ d (cl a) = -2) : isD (d (cl a)) := by
  rcases h _ ha.lt with q | q | q
  · exact absurd q h1
  · exact absurd q h2
  · exact q
theorem dOK.pos {d : Nat → Int32} (h : dOK d) {a : Int32} (ha : isD a) (h1 : ¬ d (cl a) < 0) : isD (d (cl a)) := by
  rcases h _ ha.lt with q | q | q
  · rw [q] at h1; exact absurd (by decide) h1
  · rw [q] at h1; exact absurd (by decide) h1
  · exact q
def mUnl (d sc : Nat → Int32) (a b : Int32) : Int32 :=
  if d (cl a) = -1 ∨ d (cl b) = -1 then -1 else if d (cl a) = -2 ∨ d (cl b) = -2 then -2
  else if sc (cl (d (cl a))) = sc (cl (d (cl b))) ∨ (5 < sc (cl (d (cl a))) ∧ 5 < sc (cl (d (cl b)))) then 0 else -2
