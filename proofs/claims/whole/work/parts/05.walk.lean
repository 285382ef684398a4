/-! the walker's words: a world (cells as a list), contracts over it, entry, calls, ends -/
/-- the array classes of the system: int, long, Book, Passage, Scribe -/
def kT (Y : Nat → ClassId) : List (ClassId × FieldType) := [(Y 0, .int), (Y 1, .long), (Y 2, .object RX0), (Y 3, .object RX2), (Y 4, .object RX3)]
/-- the tables' words of the classes, of the arrays, of arrays of references -/
def kK (G : va_G) (Y : Nat → ClassId) (t : State) : Prop := va_K G vwCl (kT Y) t ∧ va_AO RX0 t ∧ va_AO RX2 t ∧ va_AO RX3 t
theorem kK.moved {G : va_G} {Y : Nat → ClassId} {u U : State} (hvm : u.vm.Alike U.vm) (h : kK G Y u) : kK G Y U := ⟨va_K.moved hvm h.1, va_AO.moved hvm h.2.1, va_AO.moved hvm h.2.2.1, va_AO.moved hvm h.2.2.2⟩
abbrev aI (Y : Nat → ClassId) (n : Nat) (f : Nat → Int32) : va_E := .inl (Y 0, n, .inl f)
abbrev aJ (Y : Nat → ClassId) (n : Nat) (f : Nat → Int64) : va_E := .inl (Y 1, n, .inr (.inl f))
abbrev aB (Y : Nat → ClassId) (n : Nat) (f : Nat → Option Nat) : va_E := .inl (Y 2, n, .inr (.inr (.inr (.inr f))))
abbrev aP (Y : Nat → ClassId) (n : Nat) (f : Nat → Option Nat) : va_E := .inl (Y 3, n, .inr (.inr (.inr (.inr f))))
abbrev aS (Y : Nat → ClassId) (n : Nat) (f : Nat → Option Nat) : va_E := .inl (Y 4, n, .inr (.inr (.inr (.inr f))))
def bI (b : Bool) : Int32 := if b then 1 else 0
theorem bI_t : bI true = 1 := rfl
theorem bI_f : bI false = 0 := rfl
/-- the world in a walk -/
def wW (G : va_G) (A : Nat → Prop) (H0 : Heap) (ws : va_W) (H : Heap) (locs : List Loc) : Prop := va_P G vwCl ws H ∧ va_D A ws ∧ va_S A H0 H locs
/-- the world at a method's start and end -/
def wC (G : va_G) (Y : Nat → ClassId) (A : Nat → Prop) (ws : va_W) (t : State) : Prop := va_P G vwCl ws t.heap ∧ kK G Y t ∧ va_D A ws
def cPre (G : va_G) (Y : Nat → ClassId) (av : List Value) (ws : va_W) (sz : Nat) : Array Value → State → Prop := va_Pc av (fun U => U.heap.size = sz ∧ wC G Y (fun _ => True) ws U)
/-- contracts: an int, a long, nothing, a reference or null comes back; the state is told by wf -/
def ctI {S : Type} (l : Launch) (G : va_G) (Y : Nat → ClassId) (wf : S → va_W) (y : MethodName) (ws : List Cond) (rm : Room) (av : List Value) (u : S) (post : Int32 → S → Prop) : Prop :=
  ∀ sz, Met l y ws rm (cPre G Y av (wf u) sz) (va_Qi post (fun u' t => wC G Y (va_A (wf u) sz) (wf u') t) (va_A (wf u) sz)) rm.cells rm.slots (va_A (wf u) sz)
def ctJ {S : Type} (l : Launch) (G : va_G) (Y : Nat → ClassId) (wf : S → va_W) (y : MethodName) (ws : List Cond) (rm : Room) (av : List Value) (u : S) (post : Int64 → S → Prop) : Prop :=
  ∀ sz, Met l y ws rm (cPre G Y av (wf u) sz) (va_Ql post (fun u' t => wC G Y (va_A (wf u) sz) (wf u') t) (va_A (wf u) sz)) rm.cells rm.slots (va_A (wf u) sz)
def ctV {S : Type} (l : Launch) (G : va_G) (Y : Nat → ClassId) (wf : S → va_W) (y : MethodName) (ws : List Cond) (rm : Room) (av : List Value) (u : S) (post : S → Prop) : Prop :=
  ∀ sz, Met l y ws rm (cPre G Y av (wf u) sz) (va_Qv post (fun u' t => wC G Y (va_A (wf u) sz) (wf u') t) (va_A (wf u) sz)) rm.cells rm.slots (va_A (wf u) sz)
def ctQ {S : Type} (l : Launch) (G : va_G) (Y : Nat → ClassId) (wf : S → va_W) (y : MethodName) (ws : List Cond) (rm : Room) (av : List Value) (u : S) (post : Option Nat → S → Prop) : Prop :=
  ∀ sz, Met l y ws rm (cPre G Y av (wf u) sz) (va_Qq post (fun u' t => wC G Y (va_A (wf u) sz) (wf u') t) (va_A (wf u) sz)) rm.cells rm.slots (va_A (wf u) sz)
/-- what a body has at its start -/
def bSt (G : va_G) (Y : Nat → ClassId) (A : Nat → Prop) (ws : va_W) (p : Program) (y : MethodName) (wd : List Cond) (cc : ByteArray) (maxL : Nat) (ret : Option FieldType) (av : List Value) (s : State) (m : MethodId) (meth : Method) (c : Code) (ls : Array Slot) : Prop :=
  CallFix p m c cc maxL s av.toArray wd y.cls ∧ meth.sig.returnType = ret ∧ meth.locks = false ∧ meth.name = y.name ∧ kK G Y s ∧ (∀ q, s.heap.size ≤ q → A q) ∧ wW G A s.heap ws s.heap [] ∧ lv_has ls maxL (lv_args 0 av)
theorem ct_of {l : Launch} {G : va_G} {Y : Nat → ClassId} {ws : va_W} {y : MethodName} {wd wd' : List Cond} {rm : Room} {av : List Value} {Qc : (Nat → Prop) → Array Value → State → Outcome → State → Prop} {cc : ByteArray} {maxL : Nat} {ret : Option FieldType}
    (hy : plainName y.cls = true) (hw : wd = Cond.code y cc maxL ret :: wd') (hlen : (lg_sl av).length ≤ maxL)
    (body : ∀ (A : Nat → Prop) p e s m below meth c ls, bSt G Y A ws p y wd cc maxL ret av s m meth c ls →
      W p l e rm s m av.toArray below meth c s.heap [] 0 0 (MQ below (Qc A) av.toArray s rm.cells rm.slots A) (F0 m 0 ls [])) :
    ∀ sz, Met l y wd rm (cPre G Y av ws sz) (Qc (va_A ws sz)) rm.cells rm.slots (va_A ws sz) := by
  intro sz
  refine Met.ofW (cc := cc) (maxL := maxL) (ret := ret) hy hw ?_
  intro p e s m args below meth c s₁ B hml hv
  obtain ⟨rfl, hsz, hP, hK, hD0⟩ := hv
  have hts := atoms_spec (ws := wd) B.pre
  have hown : s.vm.findClass y.cls = some m.cls := findClass_of_methodNamed B.named
  subst hsz
  have hD := hD0.self (sz := s.heap.size)
  have hl := lv_entry av (n := maxL) hlen
  rw [lg_entry_eq]
  exact body _ p e s m below meth c _ ⟨⟨B.exec, B.bytes, hml, hown, hts⟩, B.returns, B.notSynchronized, (name_of_methodNamed B.named B.method).1, hK, fun q h => Or.inr h, ⟨hP, hD, va_S.rf⟩, hl⟩
section CTS
variable {S : Type} {l : Launch} {G : va_G} {Y : Nat → ClassId} {wf : S → va_W} {y : MethodName} {wd wd' : List Cond} {rm : Room} {av : List Value} {u : S} {cc : ByteArray} {maxL : Nat} {ret : Option FieldType}
theorem ctI.of {post : Int32 → S → Prop} (hy : plainName y.cls = true) (hw : wd = Cond.code y cc maxL ret :: wd') (hlen : (lg_sl av).length ≤ maxL)
    (body : ∀ (A : Nat → Prop) p e s m below meth c ls, bSt G Y A (wf u) p y wd cc maxL ret av s m meth c ls → W p l e rm s m av.toArray below meth c s.heap [] 0 0 (MQ below (va_Qi post (fun u' t => wC G Y A (wf u') t) A) av.toArray s rm.cells rm.slots A) (F0 m 0 ls [])) : ctI l G Y wf y wd rm av u post :=
  ct_of (Qc := fun A => va_Qi post (fun u' t => wC G Y A (wf u') t) A) hy hw hlen body
theorem ctJ.of {post : Int64 → S → Prop} (hy : plainName y.cls = true) (hw : wd = Cond.code y cc maxL ret :: wd') (hlen : (lg_sl av).length ≤ maxL)
    (body : ∀ (A : Nat → Prop) p e s m below meth c ls, bSt G Y A (wf u) p y wd cc maxL ret av s m meth c ls → W p l e rm s m av.toArray below meth c s.heap [] 0 0 (MQ below (va_Ql post (fun u' t => wC G Y A (wf u') t) A) av.toArray s rm.cells rm.slots A) (F0 m 0 ls [])) : ctJ l G Y wf y wd rm av u post :=
  ct_of (Qc := fun A => va_Ql post (fun u' t => wC G Y A (wf u') t) A) hy hw hlen body
theorem ctV.of {post : S → Prop} (hy : plainName y.cls = true) (hw : wd = Cond.code y cc maxL ret :: wd') (hlen : (lg_sl av).length ≤ maxL)
    (body : ∀ (A : Nat → Prop) p e s m below meth c ls, bSt G Y A (wf u) p y wd cc maxL ret av s m meth c ls → W p l e rm s m av.toArray below meth c s.heap [] 0 0 (MQ below (va_Qv post (fun u' t => wC G Y A (wf u') t) A) av.toArray s rm.cells rm.slots A) (F0 m 0 ls [])) : ctV l G Y wf y wd rm av u post :=
  ct_of (Qc := fun A => va_Qv post (fun u' t => wC G Y A (wf u') t) A) hy hw hlen body
theorem ctQ.of {post : Option Nat → S → Prop} (hy : plainName y.cls = true) (hw : wd = Cond.code y cc maxL ret :: wd') (hlen : (lg_sl av).length ≤ maxL)
    (body : ∀ (A : Nat → Prop) p e s m below meth c ls, bSt G Y A (wf u) p y wd cc maxL ret av s m meth c ls → W p l e rm s m av.toArray below meth c s.heap [] 0 0 (MQ below (va_Qq post (fun u' t => wC G Y A (wf u') t) A) av.toArray s rm.cells rm.slots A) (F0 m 0 ls [])) : ctQ l G Y wf y wd rm av u post :=
  ct_of (Qc := fun A => va_Qq post (fun u' t => wC G Y A (wf u') t) A) hy hw hlen body
end CTS
section CTR
variable {S : Type} {p : Program} {l : Launch} {e : Env} {R : Room} {s : State} {m : MethodId} {args : Array Value} {below : List Frame} {meth : Method} {c : Code} {H : Heap} {locs : List Loc} {cells slots mc ms : Nat} {cc : ByteArray} {pc : Nat} {ls : Array Slot} {G : va_G} {Y : Nat → ClassId} {wf : S → va_W} {A : Nat → Prop} {u : S}
theorem ct_iret {post : Int32 → S → Prop} {v : Int32} {ty : FieldType} (hexec : p.tables.exec = Jvm.exec) (hb : c.code = cc) (hr : meth.sig.returnType = some ty) (hn : narrow ty (.int v) = .int v) (hlocks : meth.locks = false) (hK : kK G Y s) (hw : wW G A s.heap (wf u) H locs) (hdg : decode cc pc = .ok (.ireturn, 1)) (h1 : cells ≤ mc) (h2 : slots ≤ ms) (hp : post v u) :
    W p l e R s m args below meth c H locs cells slots (MQ below (va_Qi post (fun u' t => wC G Y A (wf u') t) A) args s mc ms A) (F0 m pc ls [.int v]) := by
  refine W.widen (k := mc) (n := ms) h1 h2 ?_
  exact W.zret hexec hb hr hn (fun t ht hW => ⟨⟨v, u, rfl, hp, by rw [ht]; exact hw.1, kK.moved hW.alike hK, hw.2.1⟩, hw.2.2.F ht⟩) hw.2.2.2.2 hdg hlocks
theorem ct_lret {post : Int64 → S → Prop} {v : Int64} (hexec : p.tables.exec = Jvm.exec) (hb : c.code = cc) (hr : meth.sig.returnType = some .long) (hlocks : meth.locks = false) (hK : kK G Y s) (hw : wW G A s.heap (wf u) H locs) (hdg : decode cc pc = .ok (.lreturn, 1)) (h1 : cells ≤ mc) (h2 : slots ≤ ms) (hp : post v u) :
    W p l e R s m args below meth c H locs cells slots (MQ below (va_Ql post (fun u' t => wC G Y A (wf u') t) A) args s mc ms A) (F0 m pc ls [.long v]) := by
  refine W.widen (k := mc) (n := ms) h1 h2 ?_
  exact W.lret hexec hb hr (fun t ht hW => ⟨⟨v, u, rfl, hp, by rw [ht]; exact hw.1, kK.moved hW.alike hK, hw.2.1⟩, hw.2.2.F ht⟩) hw.2.2.2.2 hdg hlocks
theorem ct_vret {post : S → Prop} (hexec : p.tables.exec = Jvm.exec) (hb : c.code = cc) (hr : meth.sig.returnType = none) (hlocks : meth.locks = false) (hK : kK G Y s) (hw : wW G A s.heap (wf u) H locs) (hdg : decode cc pc = .ok (.return_, 1)) (h1 : cells ≤ mc) (h2 : slots ≤ ms) (hp : post u) :
    W p l e R s m args below meth c H locs cells slots (MQ below (va_Qv post (fun u' t => wC G Y A (wf u') t) A) args s mc ms A) (F0 m pc ls []) := by
  refine W.widen (k := mc) (n := ms) h1 h2 ?_
  exact W.vret hexec hb hr (fun t ht hW => ⟨⟨u, rfl, hp, by rw [ht]; exact hw.1, kK.moved hW.alike hK, hw.2.1⟩, hw.2.2.F ht⟩) hw.2.2.2.2 hdg hlocks
theorem ct_qret {post : Option Nat → S → Prop} {v : Option Nat} {rt : FieldType} (hexec : p.tables.exec = Jvm.exec) (hb : c.code = cc) (hr : meth.sig.returnType = some rt) (hrt : (∃ n, rt = .object n) ∨ ∃ t, rt = .array t) (hlocks : meth.locks = false) (hK : kK G Y s) (hw : wW G A s.heap (wf u) H locs) (hdg : decode cc pc = .ok (.areturn, 1)) (h1 : cells ≤ mc) (h2 : slots ≤ ms) (hp : post v u) :
    W p l e R s m args below meth c H locs cells slots (MQ below (va_Qq post (fun u' t => wC G Y A (wf u') t) A) args s mc ms A) (F0 m pc ls [va_rf v]) := by
  refine W.widen (k := mc) (n := ms) h1 h2 ?_
  exact W.aret hexec hb hr hrt (va_rf_or v) (fun t ht hW => ⟨⟨v, u, rfl, hp, by rw [ht]; exact hw.1, kK.moved hW.alike hK, hw.2.1⟩, hw.2.2.F ht⟩) hw.2.2.2.2 hdg hlocks
end CTR
/-! calls with a part of the world: cw = wr ++ what the callee gets -/
section CTC
variable {S : Type} {p : Program} {l : Launch} {e : Env} {R : Room} {s : State} {m : MethodId} {args : Array Value} {below : List Frame} {meth : Method} {c : Code} {H : Heap} {locs : List Loc} {cells slots : Nat} {Q : State → Prop} {cc : ByteArray} {pc : Nat} {ls : Array Slot} {G : va_G} {Y : Nat → ClassId} {wf : S → va_W} {A : Nat → Prop} {u : S}
variable {y : MethodName} {bytes : ByteArray} {maxL nL n index : Nat} {ret : Option FieldType} {wd : List Cond} {rm : Room} {Ts : List Cond} {own C : String} {b : Addr} {As rest st : List Value} {wr : va_W}
/-- from an appended world: the rest stays -/
theorem wW_split {w1 : va_W} (hw : wW G A s.heap (wr ++ w1) H locs) : va_P G vwCl w1 H ∧ va_D A w1 := by
  refine ⟨fun k q hk => hw.1 (wr.length + k) q ?_, ⟨fun i j x z hi hj hxz => ?_, fun k q hk => hw.2.1.2 (wr.length + k) q ?_⟩⟩
  · rw [List.getElem?_append_right (Nat.le_add_right _ _), Nat.add_sub_cancel_left]; exact hk
  · have := hw.2.1.1 (wr.length + i) (wr.length + j) x z (by rw [List.getElem?_append_right (Nat.le_add_right _ _), Nat.add_sub_cancel_left]; exact hi) (by rw [List.getElem?_append_right (Nat.le_add_right _ _), Nat.add_sub_cancel_left]; exact hj) hxz
    omega
  · rw [List.getElem?_append_right (Nat.le_add_right _ _), Nat.add_sub_cancel_left]; exact hk
theorem wW_free {w1 : va_W} (hA : ∀ q, s.heap.size ≤ q → A q) (hw : wW G A s.heap (wr ++ w1) H locs) : ∀ q, va_A w1 H.size q → A q := by
  intro q hq
  rcases hq with ⟨k, e9, hk⟩ | hq
  · exact (wW_split hw).2.2 k _ hk
  · exact hA q (Nat.le_trans hw.2.2.1 hq)
theorem wW_join {w1 w2 : va_W} {H1 : Heap} {locs1 : List Loc} (hA : ∀ q, s.heap.size ≤ q → A q) (hw : wW G A s.heap (wr ++ w1) H locs) (hk : ∀ q : Nat, q < H.size → ¬ va_A w1 H.size q → H1[q]? = H[q]?) (hP1 : va_P G vwCl w2 H1) (hD1 : va_D (va_A w1 H.size) w2) (hS : va_S A s.heap H1 locs1) : wW G A s.heap (wr ++ w2) H1 locs1 := by
  have hr : ∀ (k : Nat) (q : Nat × va_E), wr[k]? = some q → (wr ++ w1)[k]? = some q := fun k q hk => by
    rw [List.getElem?_append_left (List.getElem?_eq_some_iff.mp hk).1]; exact hk
  have apart : ∀ (k : Nat) (q : Nat × va_E), wr[k]? = some q → q.1 < H.size ∧ ¬ va_A w1 H.size q.1 := by
    intro k q hq
    have hl := (hw.1 k q (hr k q hq)).lt
    refine ⟨hl, fun h => ?_⟩
    rcases h with ⟨k2, e9, h⟩ | h
    · have h4 : (wr ++ w1)[wr.length + k2]? = some (q.1, e9) := by rw [List.getElem?_append_right (Nat.le_add_right _ _), Nat.add_sub_cancel_left]; exact h
      have hij := hw.2.1.1 k (wr.length + k2) q (q.1, e9) (hr k q hq) h4 rfl
      have := (List.getElem?_eq_some_iff.mp hq).1
      omega
    · omega
  refine ⟨va_P.app (fun k q hq => (hw.1 k q (hr k q hq)).kept (hk q.1 (apart k q hq).1 (apart k q hq).2)) hP1, va_D.app ⟨fun i j x z hi hj => hw.2.1.1 i j x z (hr i x hi) (hr j z hj), fun k q hq => hw.2.1.2 k q (hr k q hq)⟩ (hD1.weaken (fun k q _ h => wW_free hA hw q.1 h)) (fun i j x z hx hz hxz => ?_), hS⟩
  exact (apart i x hx).2 (by rw [hxz]; exact hD1.2 j z hz)
theorem cPre_blind {av : List Value} {ws : va_W} {sz : Nat} : FrameBlind (cPre G Y av ws sz) := fun a U g mk q => by
  obtain ⟨q0, q1, qP, qK, qD⟩ := q
  exact ⟨q0, q1, qP, kK.moved (u := U) (U := U.calling g mk a) (Vm.Alike.refl U.vm) qK, qD⟩
theorem cPre_at {av : List Value} (hK : kK G Y s) (hw : wW G A s.heap (wr ++ wf u) H locs) (U : State) (hU : U.heap = H) (hW : s.WarmedH U.vm) : cPre G Y av (wf u) H.size av.toArray U :=
  ⟨rfl, by rw [hU], by rw [hU]; exact (wW_split hw).1, kK.moved hW.alike hK, (wW_split hw).2.weaken (fun _ _ _ _ => trivial)⟩
/-- how a call goes on -/
theorem ct_goi {post : Int32 → S → Prop} {a : Array Value} {st0 : List Value} (hK : kK G Y s) (hw : wW G A s.heap (wr ++ wf u) H locs) (hA : ∀ q, s.heap.size ≤ q → A q) (hr : va_Run p l e R s m args below meth c H locs cells slots rm.cells rm.slots (F0 m pc ls st0) rest (va_Qi post (fun u' t => wC G Y (va_A (wf u) H.size) (wf u') t) (va_A (wf u) H.size) a) (va_A (wf u) H.size))
    (kk : ∀ (r : Int32) (u' : S) (H' : Heap) (locs' : List Loc), post r u' → wW G A s.heap (wr ++ wf u') H' locs' → W p l e R s m args below meth c H' locs' (cells + rm.cells) (slots + rm.slots) Q (F0 m (pc + 3) ls (.int r :: rest))) : W p l e R s m args below meth c H locs cells slots Q (F0 m pc ls st0) :=
  va_calli hr hw.2.2 (fun q _ h => wW_free hA hw q h) (wW_free hA hw) (fun r u' t H1 locs1 ht hvm hp hB hz1 hk1 hS => kk r u' H1 locs1 hp (wW_join hA hw hk1 (by rw [← ht]; exact hB.1) hB.2.2 hS))
theorem ct_goj {post : Int64 → S → Prop} {a : Array Value} {st0 : List Value} (hK : kK G Y s) (hw : wW G A s.heap (wr ++ wf u) H locs) (hA : ∀ q, s.heap.size ≤ q → A q) (hr : va_Run p l e R s m args below meth c H locs cells slots rm.cells rm.slots (F0 m pc ls st0) rest (va_Ql post (fun u' t => wC G Y (va_A (wf u) H.size) (wf u') t) (va_A (wf u) H.size) a) (va_A (wf u) H.size))
    (kk : ∀ (r : Int64) (u' : S) (H' : Heap) (locs' : List Loc), post r u' → wW G A s.heap (wr ++ wf u') H' locs' → W p l e R s m args below meth c H' locs' (cells + rm.cells) (slots + rm.slots) Q (F0 m (pc + 3) ls (.long r :: rest))) : W p l e R s m args below meth c H locs cells slots Q (F0 m pc ls st0) :=
  va_calll hr hw.2.2 (fun q _ h => wW_free hA hw q h) (wW_free hA hw) (fun r u' t H1 locs1 ht hvm hp hB hz1 hk1 hS => kk r u' H1 locs1 hp (wW_join hA hw hk1 (by rw [← ht]; exact hB.1) hB.2.2 hS))
theorem ct_gov {post : S → Prop} {a : Array Value} {st0 : List Value} (hK : kK G Y s) (hw : wW G A s.heap (wr ++ wf u) H locs) (hA : ∀ q, s.heap.size ≤ q → A q) (hr : va_Run p l e R s m args below meth c H locs cells slots rm.cells rm.slots (F0 m pc ls st0) rest (va_Qv post (fun u' t => wC G Y (va_A (wf u) H.size) (wf u') t) (va_A (wf u) H.size) a) (va_A (wf u) H.size))
    (kk : ∀ (u' : S) (H' : Heap) (locs' : List Loc), post u' → wW G A s.heap (wr ++ wf u') H' locs' → W p l e R s m args below meth c H' locs' (cells + rm.cells) (slots + rm.slots) Q (F0 m (pc + 3) ls rest)) : W p l e R s m args below meth c H locs cells slots Q (F0 m pc ls st0) :=
  va_callv hr hw.2.2 (fun q _ h => wW_free hA hw q h) (wW_free hA hw) (fun u' t H1 locs1 ht hvm hp hB hz1 hk1 hS => kk u' H1 locs1 hp (wW_join hA hw hk1 (by rw [← ht]; exact hB.1) hB.2.2 hS))
theorem ct_goq {post : Option Nat → S → Prop} {a : Array Value} {st0 : List Value} (hK : kK G Y s) (hw : wW G A s.heap (wr ++ wf u) H locs) (hA : ∀ q, s.heap.size ≤ q → A q) (hr : va_Run p l e R s m args below meth c H locs cells slots rm.cells rm.slots (F0 m pc ls st0) rest (va_Qq post (fun u' t => wC G Y (va_A (wf u) H.size) (wf u') t) (va_A (wf u) H.size) a) (va_A (wf u) H.size))
    (kk : ∀ (r : Option Nat) (u' : S) (H' : Heap) (locs' : List Loc), post r u' → wW G A s.heap (wr ++ wf u') H' locs' → W p l e R s m args below meth c H' locs' (cells + rm.cells) (slots + rm.slots) Q (F0 m (pc + 3) ls (va_rf r :: rest))) : W p l e R s m args below meth c H locs cells slots Q (F0 m pc ls st0) :=
  va_callq hr hw.2.2 (fun q _ h => wW_free hA hw q h) (wW_free hA hw) (fun r u' t H1 locs1 ht hvm hp hB hz1 hk1 hS => kk r u' H1 locs1 hp (wW_join hA hw hk1 (by rw [← ht]; exact hB.1) hB.2.2 hS))
/-- the run of a call by its contract: of an object, of a class, of a constructor -/
theorem ct_runV {Qc : Array Value → State → Outcome → State → Prop} (F : CallFix p m c cc nL s args Ts own) (hM : Met l y wd rm (cPre G Y (.ref b :: As) (wf u) H.size) Qc rm.cells rm.slots (va_A (wf u) H.size)) (cw : CallW R s args own C index y bytes maxL ret wd rm rm.cells rm.slots n) (hK : kK G Y s) (hw : wW G A s.heap (wr ++ wf u) H locs)
    (hrecv : ∃ cell : Cell, H[b]? = some cell ∧ cell.vm.isStatics = false ∧ s.vm.findClass C = some cell.cls) (hst : st = As.reverse ++ .ref b :: rest) (hn : As.length = n) (hsz : ls.size = nL) (hroom : (rest.map fun v => v.category).sum ≤ 8) (hdg : decode cc pc = .ok (.invokevirtual index, 3)) (hf : cells + rm.cells ≤ R.cells ∧ slots + rm.slots ≤ R.slots) :
    va_Run p l e R s m args below meth c H locs cells slots rm.cells rm.slots (F0 m pc ls st) rest (Qc (Value.ref b :: As).toArray) (va_A (wf u) H.size) :=
  va_runV F hM cw ⟨cPre_blind, hrecv, fun U hU hW => cPre_at hK hw U hU hW⟩ rfl hn hsz hst (lv_room hroom) hdg hf
theorem ct_runS {Qc : Array Value → State → Outcome → State → Prop} (F : CallFix p m c cc nL s args Ts own) (hM : Met l y wd rm (cPre G Y As (wf u) H.size) Qc rm.cells rm.slots (va_A (wf u) H.size)) (cw : CallB R s args own index y bytes maxL ret wd rm rm.cells rm.slots n ∧ (Cond.static y).before args s = true) (hK : kK G Y s) (hw : wW G A s.heap (wr ++ wf u) H locs)
    (hst : st = As.reverse ++ rest) (hn : As.length = n) (hsz : ls.size = nL) (hroom : (rest.map fun v => v.category).sum ≤ 8) (hdg : decode cc pc = .ok (.invokestatic index, 3)) (hf : cells + rm.cells ≤ R.cells ∧ slots + rm.slots ≤ R.slots) :
    va_Run p l e R s m args below meth c H locs cells slots rm.cells rm.slots (F0 m pc ls st) rest (Qc As.toArray) (va_A (wf u) H.size) :=
  va_runS F hM cw ⟨cPre_blind, fun U hU hW => cPre_at hK hw U hU hW⟩ rfl hn hsz hst (lv_room hroom) hdg hf
theorem ct_runI {Qc : Array Value → State → Outcome → State → Prop} (F : CallFix p m c cc nL s args Ts own) (hM : Met l y wd rm (cPre G Y (.ref b :: As) (wf u) H.size) Qc rm.cells rm.slots (va_A (wf u) H.size)) (cw : CallB R s args own index y bytes maxL none wd rm rm.cells rm.slots n ∧ y.name = "<init>" ∧ (Cond.instanceMethod y).before args s = true) (hK : kK G Y s) (hw : wW G A s.heap (wr ++ wf u) H locs)
    (hst : st = As.reverse ++ .ref b :: rest) (hn : As.length = n) (hsz : ls.size = nL) (hroom : (rest.map fun v => v.category).sum ≤ 8) (hdg : decode cc pc = .ok (.invokespecial index, 3)) (hf : cells + rm.cells ≤ R.cells ∧ slots + rm.slots ≤ R.slots) :
    va_Run p l e R s m args below meth c H locs cells slots rm.cells rm.slots (F0 m pc ls st) rest (Qc (Value.ref b :: As).toArray) (va_A (wf u) H.size) :=
  va_runI F hM cw ⟨cPre_blind, fun U hU hW => cPre_at hK hw U hU hW⟩ rfl hn hsz hst (lv_room hroom) hdg hf
end CTC
/-! the same with the whole world, by the contract -/
section CTD
variable {S : Type} {p : Program} {l : Launch} {e : Env} {R : Room} {s : State} {m : MethodId} {args : Array Value} {below : List Frame} {meth : Method} {c : Code} {H : Heap} {locs : List Loc} {cells slots : Nat} {Q : State → Prop} {cc : ByteArray} {pc : Nat} {ls : Array Slot} {G : va_G} {Y : Nat → ClassId} {wf : S → va_W} {A : Nat → Prop} {u : S}
variable {y : MethodName} {bytes : ByteArray} {maxL nL n index : Nat} {ret : Option FieldType} {wd : List Cond} {rm : Room} {Ts : List Cond} {own C : String} {b : Addr} {As rest st : List Value}
theorem ctI.callV {post : Int32 → S → Prop} (hM : ctI l G Y wf y wd rm (.ref b :: As) u post) (F : CallFix p m c cc nL s args Ts own) (cw : CallW R s args own C index y bytes maxL ret wd rm rm.cells rm.slots n) (hK : kK G Y s) (hw : wW G A s.heap (wf u) H locs) (hA : ∀ q, s.heap.size ≤ q → A q)
    (hrecv : ∃ cell : Cell, H[b]? = some cell ∧ cell.vm.isStatics = false ∧ s.vm.findClass C = some cell.cls) (hst : st = As.reverse ++ .ref b :: rest) (hn : As.length = n) (hsz : ls.size = nL) (hroom : (rest.map fun v => v.category).sum ≤ 8) (hdg : decode cc pc = .ok (.invokevirtual index, 3)) (hf : cells + rm.cells ≤ R.cells ∧ slots + rm.slots ≤ R.slots)
    (kk : ∀ (r : Int32) (u' : S) (H' : Heap) (locs' : List Loc), post r u' → wW G A s.heap (wf u') H' locs' → W p l e R s m args below meth c H' locs' (cells + rm.cells) (slots + rm.slots) Q (F0 m (pc + 3) ls (.int r :: rest))) : W p l e R s m args below meth c H locs cells slots Q (F0 m pc ls st) :=
  ct_goi (wr := []) hK hw hA (ct_runV (wr := []) F (hM H.size) cw hK hw hrecv hst hn hsz hroom hdg hf) kk
theorem ctJ.callV {post : Int64 → S → Prop} (hM : ctJ l G Y wf y wd rm (.ref b :: As) u post) (F : CallFix p m c cc nL s args Ts own) (cw : CallW R s args own C index y bytes maxL ret wd rm rm.cells rm.slots n) (hK : kK G Y s) (hw : wW G A s.heap (wf u) H locs) (hA : ∀ q, s.heap.size ≤ q → A q)
    (hrecv : ∃ cell : Cell, H[b]? = some cell ∧ cell.vm.isStatics = false ∧ s.vm.findClass C = some cell.cls) (hst : st = As.reverse ++ .ref b :: rest) (hn : As.length = n) (hsz : ls.size = nL) (hroom : (rest.map fun v => v.category).sum ≤ 8) (hdg : decode cc pc = .ok (.invokevirtual index, 3)) (hf : cells + rm.cells ≤ R.cells ∧ slots + rm.slots ≤ R.slots)
    (kk : ∀ (r : Int64) (u' : S) (H' : Heap) (locs' : List Loc), post r u' → wW G A s.heap (wf u') H' locs' → W p l e R s m args below meth c H' locs' (cells + rm.cells) (slots + rm.slots) Q (F0 m (pc + 3) ls (.long r :: rest))) : W p l e R s m args below meth c H locs cells slots Q (F0 m pc ls st) :=
  ct_goj (wr := []) hK hw hA (ct_runV (wr := []) F (hM H.size) cw hK hw hrecv hst hn hsz hroom hdg hf) kk
theorem ctV.callV {post : S → Prop} (hM : ctV l G Y wf y wd rm (.ref b :: As) u post) (F : CallFix p m c cc nL s args Ts own) (cw : CallW R s args own C index y bytes maxL ret wd rm rm.cells rm.slots n) (hK : kK G Y s) (hw : wW G A s.heap (wf u) H locs) (hA : ∀ q, s.heap.size ≤ q → A q)
    (hrecv : ∃ cell : Cell, H[b]? = some cell ∧ cell.vm.isStatics = false ∧ s.vm.findClass C = some cell.cls) (hst : st = As.reverse ++ .ref b :: rest) (hn : As.length = n) (hsz : ls.size = nL) (hroom : (rest.map fun v => v.category).sum ≤ 8) (hdg : decode cc pc = .ok (.invokevirtual index, 3)) (hf : cells + rm.cells ≤ R.cells ∧ slots + rm.slots ≤ R.slots)
    (kk : ∀ (u' : S) (H' : Heap) (locs' : List Loc), post u' → wW G A s.heap (wf u') H' locs' → W p l e R s m args below meth c H' locs' (cells + rm.cells) (slots + rm.slots) Q (F0 m (pc + 3) ls rest)) : W p l e R s m args below meth c H locs cells slots Q (F0 m pc ls st) :=
  ct_gov (wr := []) hK hw hA (ct_runV (wr := []) F (hM H.size) cw hK hw hrecv hst hn hsz hroom hdg hf) kk
theorem ctQ.callV {post : Option Nat → S → Prop} (hM : ctQ l G Y wf y wd rm (.ref b :: As) u post) (F : CallFix p m c cc nL s args Ts own) (cw : CallW R s args own C index y bytes maxL ret wd rm rm.cells rm.slots n) (hK : kK G Y s) (hw : wW G A s.heap (wf u) H locs) (hA : ∀ q, s.heap.size ≤ q → A q)
    (hrecv : ∃ cell : Cell, H[b]? = some cell ∧ cell.vm.isStatics = false ∧ s.vm.findClass C = some cell.cls) (hst : st = As.reverse ++ .ref b :: rest) (hn : As.length = n) (hsz : ls.size = nL) (hroom : (rest.map fun v => v.category).sum ≤ 8) (hdg : decode cc pc = .ok (.invokevirtual index, 3)) (hf : cells + rm.cells ≤ R.cells ∧ slots + rm.slots ≤ R.slots)
    (kk : ∀ (r : Option Nat) (u' : S) (H' : Heap) (locs' : List Loc), post r u' → wW G A s.heap (wf u') H' locs' → W p l e R s m args below meth c H' locs' (cells + rm.cells) (slots + rm.slots) Q (F0 m (pc + 3) ls (va_rf r :: rest))) : W p l e R s m args below meth c H locs cells slots Q (F0 m pc ls st) :=
  ct_goq (wr := []) hK hw hA (ct_runV (wr := []) F (hM H.size) cw hK hw hrecv hst hn hsz hroom hdg hf) kk
theorem ctI.callS {post : Int32 → S → Prop} (hM : ctI l G Y wf y wd rm As u post) (F : CallFix p m c cc nL s args Ts own) (cw : CallB R s args own index y bytes maxL ret wd rm rm.cells rm.slots n ∧ (Cond.static y).before args s = true) (hK : kK G Y s) (hw : wW G A s.heap (wf u) H locs) (hA : ∀ q, s.heap.size ≤ q → A q)
    (hst : st = As.reverse ++ rest) (hn : As.length = n) (hsz : ls.size = nL) (hroom : (rest.map fun v => v.category).sum ≤ 8) (hdg : decode cc pc = .ok (.invokestatic index, 3)) (hf : cells + rm.cells ≤ R.cells ∧ slots + rm.slots ≤ R.slots)
    (kk : ∀ (r : Int32) (u' : S) (H' : Heap) (locs' : List Loc), post r u' → wW G A s.heap (wf u') H' locs' → W p l e R s m args below meth c H' locs' (cells + rm.cells) (slots + rm.slots) Q (F0 m (pc + 3) ls (.int r :: rest))) : W p l e R s m args below meth c H locs cells slots Q (F0 m pc ls st) :=
  ct_goi (wr := []) hK hw hA (ct_runS (wr := []) F (hM H.size) cw hK hw hst hn hsz hroom hdg hf) kk
theorem ctJ.callS {post : Int64 → S → Prop} (hM : ctJ l G Y wf y wd rm As u post) (F : CallFix p m c cc nL s args Ts own) (cw : CallB R s args own index y bytes maxL ret wd rm rm.cells rm.slots n ∧ (Cond.static y).before args s = true) (hK : kK G Y s) (hw : wW G A s.heap (wf u) H locs) (hA : ∀ q, s.heap.size ≤ q → A q)
    (hst : st = As.reverse ++ rest) (hn : As.length = n) (hsz : ls.size = nL) (hroom : (rest.map fun v => v.category).sum ≤ 8) (hdg : decode cc pc = .ok (.invokestatic index, 3)) (hf : cells + rm.cells ≤ R.cells ∧ slots + rm.slots ≤ R.slots)
    (kk : ∀ (r : Int64) (u' : S) (H' : Heap) (locs' : List Loc), post r u' → wW G A s.heap (wf u') H' locs' → W p l e R s m args below meth c H' locs' (cells + rm.cells) (slots + rm.slots) Q (F0 m (pc + 3) ls (.long r :: rest))) : W p l e R s m args below meth c H locs cells slots Q (F0 m pc ls st) :=
  ct_goj (wr := []) hK hw hA (ct_runS (wr := []) F (hM H.size) cw hK hw hst hn hsz hroom hdg hf) kk
theorem ctV.callI {post : S → Prop} (hM : ctV l G Y wf y wd rm (.ref b :: As) u post) (F : CallFix p m c cc nL s args Ts own) (cw : CallB R s args own index y bytes maxL none wd rm rm.cells rm.slots n ∧ y.name = "<init>" ∧ (Cond.instanceMethod y).before args s = true) (hK : kK G Y s) (hw : wW G A s.heap (wf u) H locs) (hA : ∀ q, s.heap.size ≤ q → A q)
    (hst : st = As.reverse ++ .ref b :: rest) (hn : As.length = n) (hsz : ls.size = nL) (hroom : (rest.map fun v => v.category).sum ≤ 8) (hdg : decode cc pc = .ok (.invokespecial index, 3)) (hf : cells + rm.cells ≤ R.cells ∧ slots + rm.slots ≤ R.slots)
    (kk : ∀ (u' : S) (H' : Heap) (locs' : List Loc), post u' → wW G A s.heap (wf u') H' locs' → W p l e R s m args below meth c H' locs' (cells + rm.cells) (slots + rm.slots) Q (F0 m (pc + 3) ls rest)) : W p l e R s m args below meth c H locs cells slots Q (F0 m pc ls st) :=
  ct_gov (wr := []) hK hw hA (ct_runI (wr := []) F (hM H.size) cw hK hw hst hn hsz hroom hdg hf) kk
/-- a loop, by a measure; cells and slots may grow -/
theorem W_loop {σ : Type} (L : Nat) (I : Nat → σ → Heap → List Loc → Array Slot → Prop)
    (step : ∀ (n : Nat) (x : σ) (H : Heap) (locs : List Loc) (ls : Array Slot), I n x H locs ls → (∀ (n' : Nat) (x' : σ) (H' : Heap) (locs' : List Loc) (ls' : Array Slot), n' < n → I n' x' H' locs' ls' → W p l e R s m args below meth c H' locs' cells slots Q (F0 m L ls' [])) → W p l e R s m args below meth c H locs cells slots Q (F0 m L ls []))
    {n : Nat} {x : σ} (h : I n x H locs ls) : W p l e R s m args below meth c H locs cells slots Q (F0 m L ls []) := by
  have key : ∀ (k n : Nat) (x : σ) (H : Heap) (locs : List Loc) (ls : Array Slot), n < k → I n x H locs ls → W p l e R s m args below meth c H locs cells slots Q (F0 m L ls []) := by
    intro k
    induction k with
    | zero => intro n x H locs ls h; exact absurd h (Nat.not_lt_zero _)
    | succ k ih => intro n x H locs ls hk hI; exact step n x H locs ls hI (fun n' x' H' locs' ls' hn hI' => ih n' x' H' locs' ls' (by omega) hI')
  exact key (n + 1) n x H locs ls (Nat.lt_succ_self n) h
theorem W_loopC {σ : Type} (L : Nat) (I : Nat → σ → Heap → List Loc → Array Slot → Nat → Nat → Prop)
    (step : ∀ (n : Nat) (x : σ) (H : Heap) (locs : List Loc) (ls : Array Slot) (cells slots : Nat), I n x H locs ls cells slots → (∀ (n' : Nat) (x' : σ) (H' : Heap) (locs' : List Loc) (ls' : Array Slot) (cells' slots' : Nat), n' < n → I n' x' H' locs' ls' cells' slots' → W p l e R s m args below meth c H' locs' cells' slots' Q (F0 m L ls' [])) → W p l e R s m args below meth c H locs cells slots Q (F0 m L ls []))
    {n : Nat} {x : σ} (h : I n x H locs ls cells slots) : W p l e R s m args below meth c H locs cells slots Q (F0 m L ls []) := by
  have key : ∀ (k n : Nat) (x : σ) (H : Heap) (locs : List Loc) (ls : Array Slot) (cells slots : Nat), n < k → I n x H locs ls cells slots → W p l e R s m args below meth c H locs cells slots Q (F0 m L ls []) := by
    intro k
    induction k with
    | zero => intro n x H locs ls cells slots h; exact absurd h (Nat.not_lt_zero _)
    | succ k ih => intro n x H locs ls cells slots hk hI; exact step n x H locs ls cells slots hI (fun n' x' H' locs' ls' c' s' hn hI' => ih n' x' H' locs' ls' c' s' (by omega) hI')
  exact key (n + 1) n x H locs ls cells slots (Nat.lt_succ_self n) h
/-- where branches come together with an int on the stack -/
theorem W_joini (J : Nat) (P : Int32 → Prop) (rest : List Value) {g : JFrame} (tail : ∀ v : Int32, P v → W p l e R s m args below meth c H locs cells slots Q (F0 m J ls (.int v :: rest))) (body : (∀ v : Int32, P v → W p l e R s m args below meth c H locs cells slots Q (F0 m J ls (.int v :: rest))) → W p l e R s m args below meth c H locs cells slots Q g) : W p l e R s m args below meth c H locs cells slots Q g := body tail
theorem W_joinl (J : Nat) (P : Int64 → Prop) (rest : List Value) {g : JFrame} (tail : ∀ v : Int64, P v → W p l e R s m args below meth c H locs cells slots Q (F0 m J ls (.long v :: rest))) (body : (∀ v : Int64, P v → W p l e R s m args below meth c H locs cells slots Q (F0 m J ls (.long v :: rest))) → W p l e R s m args below meth c H locs cells slots Q g) : W p l e R s m args below meth c H locs cells slots Q g := body tail
theorem W_join (J : Nat) (P : Prop) (rest : List Value) {g : JFrame} (tail : P → W p l e R s m args below meth c H locs cells slots Q (F0 m J ls rest)) (body : (P → W p l e R s m args below meth c H locs cells slots Q (F0 m J ls rest)) → W p l e R s m args below meth c H locs cells slots Q g) : W p l e R s m args below meth c H locs cells slots Q g := body tail
end CTD
