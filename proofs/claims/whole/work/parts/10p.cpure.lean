/-! the class: what its small methods answer -/
abbrev cAlike (s t : Int32) : Prop := ¬ s < 0 ∧ (s = t ∨ (6 ≤ s ∧ 6 ≤ t))
abbrev cAdm (s k : Int32) : Prop := (s = 7 → ¬ k = 2) ∧ (s = 8 → ¬ k = 1)
def cCut (s : Int32) (v : Int64) : Int64 := if s = 0 then v.toInt32.toInt8.toInt32.toInt64 else if s = 1 then ((v.toInt32.toUInt32 % 65536).toInt32).toInt64 else if s = 2 then v.toInt32.toInt16.toInt32.toInt64 else if s = 3 then v.toInt32.toInt64 else if s = 4 then v else v &&& 1
abbrev cRun (n : Nat) (p k : Int32) : Prop := ¬ p < 0 ∧ ¬ k < 0 ∧ ¬ nI n - k < p
def cSgn (s : Int32) (v : Int64) (t : Int32) : Int64 := if 6 ≤ s then 4 * v + t.toInt64 else v
def cStop (s : Int32) (g : Nat → Int32) (ii nn st : Nat) : Prop := st ≤ nn ∧ (∀ k, k < st → cAdm s (g (ii + k))) ∧ (st < nn → ¬ cAdm s (g (ii + st)))
def jFM (x y : Int32) : Int32 := if 0 ≤ x ^^^ y then x - x / y * y else if x - x / y * y = 0 then x - x / y * y else x - x / y * y + y
theorem jFM_16 : ∀ a b : Fin 16, jFM (nI a.val - 1 - nI b.val) 16 = nI ((a.val + 31 - b.val) % 16) := by decide +kernel
theorem next16 {x : Nat} (h : x < 16) : (nI x + 1) - (nI x + 1) / 16 * 16 = nI ((x + 1) % 16) := by
  rw [nI_1, show (16 : Int32) = nI 16 from rfl]; exact pk_rem (by omega) (by decide) (by decide)
theorem held16 {x : Nat} (h : x ≤ 16) : (if nI x + 1 < 16 then nI x + 1 else 16) = nI (if x + 1 < 16 then x + 1 else 16) := by
  rw [nI_1, show (16 : Int32) = nI 16 from rfl]
  by_cases q : x + 1 < 16
  · rw [if_pos q, if_pos ((nI_ltI (by omega) (by omega)).mpr q)]
  · rw [if_neg q, if_neg (fun z => q ((nI_ltI (by omega) (by omega)).mp z))]
theorem isNot {a b : Int32} (h : a ≤ b) : ¬ b < a := Int32.not_lt.mpr h
/-- a member of a JDK class that the machine has no entry for -/
theorem ctI.ofF {S : Type} {l : Launch} {G : va_G} {Y : Nat → ClassId} {wf : S → va_W} {y : MethodName} {wd wd' : List Cond} {rm : Room} {av : List Value} {u : S} {cc : ByteArray} {maxL : Nat} {ret : Option FieldType} {post : Int32 → S → Prop} (hy : plainFor y = true) (hw : wd = Cond.code y cc maxL ret :: wd') (hlen : (lg_sl av).length ≤ maxL)
    (body : ∀ (A : Nat → Prop) p e s m below meth c ls, bSt G Y A (wf u) p y wd cc maxL ret av s m meth c ls → W p l e rm s m av.toArray below meth c s.heap [] 0 0 (MQ below (va_Qi post (fun u' t => wC G Y A (wf u') t) A) av.toArray s rm.cells rm.slots A) (F0 m 0 ls [])) : ctI l G Y wf y wd rm av u post := by
  intro sz
  refine va_MetF (cc := cc) (maxL := maxL) (ret := ret) hy hw ?_
  intro p e s m args below meth c s₁ B hml hv
  obtain ⟨rfl, hsz, hP, hK, hD0⟩ := hv
  have hts := atoms_spec (ws := wd) B.pre
  have hown : s.vm.findClass y.cls = some m.cls := findClass_of_methodNamed B.named
  subst hsz
  have hD := hD0.self (sz := s.heap.size)
  have hl := lv_entry av (n := maxL) hlen
  rw [lg_entry_eq]
  exact body _ p e s m below meth c _ ⟨⟨B.exec, B.bytes, hml, hown, hts⟩, B.returns, B.notSynchronized, (name_of_methodNamed B.named B.method).1, hK, fun q h => Or.inr h, ⟨hP, hD, va_S.rf⟩, hl⟩
