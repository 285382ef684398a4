/-! longs and ints: what both sides make of a sign -/
theorem tb64 {x y : Int64} (h : x.toBitVec = y.toBitVec) : x = y := Int64.toBitVec_inj.mp h
theorem jsh32 (v : Int64) : jsh v 32 = v.toInt32.toInt64 := by
  apply tb64
  unfold jsh
  have e : ((32 : Int32).toInt64 &&& 63).toBitVec.smod 64 = 32#64 := by decide +kernel
  rw [Int64.toBitVec_shiftRight, Int64.toBitVec_shiftLeft, e, Int32.toBitVec_toInt64, Int64.toBitVec_toInt32]
  apply BitVec.eq_of_getLsbD_eq
  intro i hi
  simp [BitVec.getLsbD_signExtend, BitVec.getLsbD_sshiftRight, BitVec.msb_eq_getLsbD_last, BitVec.getElem_signExtend]
  by_cases h : i < 32
  · simp [h, hi, show 32 + i < 64 by omega, show ¬ 64 ≤ i by omega, show ¬ 32 + i < 32 by omega, BitVec.getElem_signExtend]
  · simp [h, hi, show ¬ 32 + i < 64 by omega, show ¬ 64 ≤ i by omega, BitVec.getElem_signExtend]
theorem jsh48 (v : Int64) : jsh v 48 = v.toInt32.toInt16.toInt32.toInt64 := by
  apply tb64
  unfold jsh
  have e : ((48 : Int32).toInt64 &&& 63).toBitVec.smod 64 = 48#64 := by decide +kernel
  rw [Int64.toBitVec_shiftRight, Int64.toBitVec_shiftLeft, e, Int32.toBitVec_toInt64, Int16.toBitVec_toInt32, Int32.toBitVec_toInt16, Int64.toBitVec_toInt32]
  apply BitVec.eq_of_getLsbD_eq
  intro i hi
  simp [BitVec.getLsbD_signExtend, BitVec.getLsbD_sshiftRight, BitVec.msb_eq_getLsbD_last, BitVec.getElem_signExtend]
  by_cases h : i < 16
  · simp [h, hi, show 48 + i < 64 by omega, show i < 32 by omega, show ¬ 64 ≤ i by omega, show ¬ 48 + i < 48 by omega, BitVec.getElem_signExtend]
  · by_cases h2 : i < 32
    · simp [h, hi, h2, show ¬ 48 + i < 64 by omega, show ¬ 64 ≤ i by omega, BitVec.getElem_signExtend, BitVec.msb_eq_getLsbD_last]
    · simp [h, hi, h2, show ¬ 48 + i < 64 by omega, show ¬ 64 ≤ i by omega, BitVec.getElem_signExtend, BitVec.msb_eq_getLsbD_last]
theorem jsh56 (v : Int64) : jsh v 56 = v.toInt32.toInt8.toInt32.toInt64 := by
  apply tb64
  unfold jsh
  have e : ((56 : Int32).toInt64 &&& 63).toBitVec.smod 64 = 56#64 := by decide +kernel
  rw [Int64.toBitVec_shiftRight, Int64.toBitVec_shiftLeft, e, Int32.toBitVec_toInt64, Int8.toBitVec_toInt32, Int32.toBitVec_toInt8, Int64.toBitVec_toInt32]
  apply BitVec.eq_of_getLsbD_eq
  intro i hi
  simp [BitVec.getLsbD_signExtend, BitVec.getLsbD_sshiftRight, BitVec.msb_eq_getLsbD_last, BitVec.getElem_signExtend]
  by_cases h : i < 8
  · simp [h, hi, show 56 + i < 64 by omega, show i < 32 by omega, show ¬ 64 ≤ i by omega, show ¬ 56 + i < 56 by omega, BitVec.getElem_signExtend]
  · by_cases h2 : i < 32
    · simp [h, hi, h2, show ¬ 56 + i < 64 by omega, show ¬ 64 ≤ i by omega, BitVec.getElem_signExtend, BitVec.msb_eq_getLsbD_last]
    · simp [h, hi, h2, show ¬ 56 + i < 64 by omega, show ¬ 64 ≤ i by omega, BitVec.getElem_signExtend, BitVec.msb_eq_getLsbD_last]
theorem low32 (x : BitVec 64) : (x.signExtend 32).toNat = x.toNat % 2 ^ 32 := by
  rw [BitVec.toNat_signExtend, BitVec.toNat_setWidth]
  have e : (if x.msb = true then 2 ^ 32 - 2 ^ 64 else 0 : Nat) = 0 := by split <;> rfl
  omega
theorem cut16 (v : Int64) : v &&& 65535 = ((v.toInt32.toUInt32 % 65536).toInt32).toInt64 := by
  rw [pk_char]
  obtain ⟨n, hn⟩ : ∃ n, n = v.toInt32.toBitVec.toNat % 65536 := ⟨_, rfl⟩
  rw [← hn]
  have hn2 : n = v.toBitVec.toNat % 65536 := by
    rw [hn, Int64.toBitVec_toInt32, low32]; omega
  have hlt : n < 65536 := by omega
  apply Int64.toInt_inj.mp
  rw [Int32.toInt_toInt64, nI_toInt (by omega)]
  have h1 : (v &&& 65535).toBitVec.toNat = n := by
    rw [Int64.toBitVec_and, BitVec.toNat_and, show (65535 : Int64).toBitVec.toNat = 2 ^ 16 - 1 by decide +kernel, Nat.and_two_pow_sub_one_eq_mod, hn2]
  show (v &&& 65535).toBitVec.toInt = (n : Int)
  rw [BitVec.toInt_eq_toNat_of_lt (by omega), h1]
theorem mCut_eq {s : Int32} (h : s = 0 ∨ s = 1 ∨ s = 2 ∨ s = 3 ∨ s = 4 ∨ s = 5) (v : Int64) : mCut s v = cCut s v := by
  unfold mCut cCut
  rcases h with rfl | rfl | rfl | rfl | rfl | rfl
  · rw [if_pos rfl, if_pos rfl, jsh56]
  · rw [if_neg (by decide), if_pos rfl, if_neg (by decide), if_pos rfl, cut16]
  · rw [if_neg (by decide), if_neg (by decide), if_pos rfl, if_neg (by decide), if_neg (by decide), if_pos rfl, jsh48]
  · rw [if_neg (by decide), if_neg (by decide), if_neg (by decide), if_pos rfl, if_neg (by decide), if_neg (by decide), if_neg (by decide), if_pos rfl, jsh32]
  · simp only [show ¬ (4 : Int32) = 0 by decide, show ¬ (4 : Int32) = 1 by decide, show ¬ (4 : Int32) = 2 by decide, show ¬ (4 : Int32) = 3 by decide, if_false, if_true]
  · simp only [show ¬ (5 : Int32) = 0 by decide, show ¬ (5 : Int32) = 1 by decide, show ¬ (5 : Int32) = 2 by decide, show ¬ (5 : Int32) = 3 by decide, show ¬ (5 : Int32) = 4 by decide, if_false]
/-- a picture's number times four, and its sort -/
theorem pic_toInt {v : Int64} {t : Int32} (hv : v = v.toInt32.toInt64) (ht : t = 0 ∨ t = 1 ∨ t = 2) : (4 * v + t.toInt64).toInt = 4 * v.toInt + t.toInt := by
  have h1 : v.toInt = v.toInt32.toInt := by
    have : v.toInt = v.toInt32.toInt64.toInt := by rw [← hv]
    rw [this, Int32.toInt_toInt64]
  have h2 := v.toInt32.toInt_lt
  have h3 := v.toInt32.le_toInt
  have h4 : (0 : Int) ≤ t.toInt ∧ t.toInt ≤ 2 := by rcases ht with rfl | rfl | rfl <;> decide
  rw [Int64.toInt_add, Int64.toInt_mul, Int32.toInt_toInt64, show (4 : Int64).toInt = 4 from rfl]
  have e1 : (4 * v.toInt).bmod (2 ^ 64) = 4 * v.toInt := by apply Int.bmod_eq_of_le <;> omega
  rw [e1]
  apply Int.bmod_eq_of_le <;> omega
theorem pic_inj {v w : Int64} {t r : Int32} (hv : v = v.toInt32.toInt64) (hw : w = w.toInt32.toInt64) (ht : t = 0 ∨ t = 1 ∨ t = 2) (hr : r = 0 ∨ r = 1 ∨ r = 2) : 4 * v + t.toInt64 = 4 * w + r.toInt64 ↔ (v = w ∧ t = r) := by
  constructor
  · intro h
    have h1 := congrArg Int64.toInt h
    rw [pic_toInt hv ht, pic_toInt hw hr] at h1
    have h4 : (0 : Int) ≤ t.toInt ∧ t.toInt ≤ 2 := by rcases ht with rfl | rfl | rfl <;> decide
    have h5 : (0 : Int) ≤ r.toInt ∧ r.toInt ≤ 2 := by rcases hr with rfl | rfl | rfl <;> decide
    exact ⟨Int64.toInt_inj.mp (by omega), Int32.toInt_inj.mp (by omega)⟩
  · rintro ⟨rfl, rfl⟩; rfl
theorem pic_sort {v : Int64} {t : Int32} (hv : v = v.toInt32.toInt64) (ht : t = 0 ∨ t = 1 ∨ t = 2) : mso (4 * v + t.toInt64) = t := by
  unfold mso
  apply Int32.toBitVec_inj.mp
  rw [Int64.toBitVec_toInt32, Int64.toBitVec_and, Int64.toBitVec_add, Int64.toBitVec_mul]
  rcases ht with rfl | rfl | rfl
  all_goals
    apply BitVec.eq_of_toNat_eq
    rw [low32, BitVec.toNat_and]
    rw [show (3 : Int64).toBitVec.toNat = 2 ^ 2 - 1 by decide +kernel, Nat.and_two_pow_sub_one_eq_mod, BitVec.toNat_add, BitVec.toNat_mul]
    rw [show (4 : Int64).toBitVec.toNat = 4 by decide +kernel]
  · rw [show ((0 : Int32).toInt64).toBitVec.toNat = 0 by decide +kernel, show (0 : Int32).toBitVec.toNat = 0 by decide +kernel]; omega
  · rw [show ((1 : Int32).toInt64).toBitVec.toNat = 1 by decide +kernel, show (1 : Int32).toBitVec.toNat = 1 by decide +kernel]; omega
  · rw [show ((2 : Int32).toInt64).toBitVec.toNat = 2 by decide +kernel, show (2 : Int32).toBitVec.toNat = 2 by decide +kernel]; omega
theorem sx32 (v : Int64) : v.toInt32.toInt64 = v.toInt32.toInt64.toInt32.toInt64 := by rw [Int32.toInt32_toInt64]
theorem sx0 : (0 : Int64) = (0 : Int64).toInt32.toInt64 := by decide +kernel
