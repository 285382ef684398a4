section
/-- a private method of a class that the tables say can be made, by its rows of tables_1 -/
def lw_okq (q : MethodName × Nat) : Prop := (q.1.cls ≠ "java/lang/invoke/MethodHandle" ∧ q.1.cls ≠ "java/lang/invoke/VarHandle") ∧ Cond.instantiable q.1.cls q.2 ∈ tables_1 ∧ Cond.privateMethod q.1 ∈ tables_1 ∧ Cond.instanceMethod q.1 ∈ tables_1
theorem lw_p0 : lw_okq (⟨"Scriptorium", "lay", "(ILScriptorium$Book;)I"⟩, 6) := ⟨⟨by decide +kernel, by decide +kernel⟩, List.mem_of_getElem? (i := 15) (by decide +kernel), List.mem_of_getElem? (i := 125) (by decide +kernel), List.mem_of_getElem? (i := 126) (by decide +kernel)⟩
theorem lw_p1 : lw_okq (⟨"Scriptorium", "perform", "(LScriptorium$Passage;)I"⟩, 6) := ⟨⟨by decide +kernel, by decide +kernel⟩, List.mem_of_getElem? (i := 15) (by decide +kernel), List.mem_of_getElem? (i := 207) (by decide +kernel), List.mem_of_getElem? (i := 208) (by decide +kernel)⟩
theorem lw_p2 : lw_okq (⟨"java/lang/Throwable", "fillInStackTrace", "(I)Ljava/lang/Throwable;"⟩, 6) := ⟨⟨by decide +kernel, by decide +kernel⟩, List.mem_of_getElem? (i := 370) (by decide +kernel), List.mem_of_getElem? (i := 368) (by decide +kernel), List.mem_of_getElem? (i := 369) (by decide +kernel)⟩
theorem lw_p3 : lw_okq (⟨"ScriptoriumModel", "isUsed", "(II)Z"⟩, 11) := ⟨⟨by decide +kernel, by decide +kernel⟩, List.mem_of_getElem? (i := 421) (by decide +kernel), List.mem_of_getElem? (i := 472) (by decide +kernel), List.mem_of_getElem? (i := 473) (by decide +kernel)⟩
theorem lw_p4 : lw_okq (⟨"ScriptoriumModel", "isPictures", "(I)Z"⟩, 11) := ⟨⟨by decide +kernel, by decide +kernel⟩, List.mem_of_getElem? (i := 421) (by decide +kernel), List.mem_of_getElem? (i := 492) (by decide +kernel), List.mem_of_getElem? (i := 493) (by decide +kernel)⟩
theorem lw_p5 : lw_okq (⟨"ScriptoriumModel", "may", "(IJ)Z"⟩, 11) := ⟨⟨by decide +kernel, by decide +kernel⟩, List.mem_of_getElem? (i := 421) (by decide +kernel), List.mem_of_getElem? (i := 501) (by decide +kernel), List.mem_of_getElem? (i := 502) (by decide +kernel)⟩
theorem lw_p6 : lw_okq (⟨"ScriptoriumModel", "passes", "(IIIII)I"⟩, 11) := ⟨⟨by decide +kernel, by decide +kernel⟩, List.mem_of_getElem? (i := 421) (by decide +kernel), List.mem_of_getElem? (i := 513) (by decide +kernel), List.mem_of_getElem? (i := 514) (by decide +kernel)⟩
theorem lw_p7 : lw_okq (⟨"ScriptoriumModel", "unlike", "(II)I"⟩, 11) := ⟨⟨by decide +kernel, by decide +kernel⟩, List.mem_of_getElem? (i := 421) (by decide +kernel), List.mem_of_getElem? (i := 517) (by decide +kernel), List.mem_of_getElem? (i := 518) (by decide +kernel)⟩
def lw_privs_1 : List (MethodName × Nat) := [(⟨"Scriptorium", "lay", "(ILScriptorium$Book;)I"⟩, 6), (⟨"Scriptorium", "perform", "(LScriptorium$Passage;)I"⟩, 6), (⟨"java/lang/Throwable", "fillInStackTrace", "(I)Ljava/lang/Throwable;"⟩, 6), (⟨"ScriptoriumModel", "isUsed", "(II)Z"⟩, 11), (⟨"ScriptoriumModel", "isPictures", "(I)Z"⟩, 11), (⟨"ScriptoriumModel", "may", "(IJ)Z"⟩, 11), (⟨"ScriptoriumModel", "passes", "(IIIII)I"⟩, 11), (⟨"ScriptoriumModel", "unlike", "(II)I"⟩, 11)]
theorem lw_r1 : ∀ q ∈ lw_privs_1, lw_okq q := List.forall_mem_cons.mpr ⟨lw_p0, List.forall_mem_cons.mpr ⟨lw_p1, List.forall_mem_cons.mpr ⟨lw_p2, List.forall_mem_cons.mpr ⟨lw_p3, List.forall_mem_cons.mpr ⟨lw_p4, List.forall_mem_cons.mpr ⟨lw_p5, List.forall_mem_cons.mpr ⟨lw_p6, List.forall_mem_cons.mpr ⟨lw_p7, fun _ h => absurd h List.not_mem_nil⟩⟩⟩⟩⟩⟩⟩⟩
def lw_privs : List (MethodName × Nat) := lw_privs_1
def lw_tbl : List Cond := k2_sels lw_privs ++ tables_1
theorem lw_privs_ok : ∀ q ∈ lw_privs, lw_okq q := lw_r1
end
section
/-! ===== BEGIN words of one list among another's, by their places ===== -/
theorem goodIn_r {big : List Cond} (ws : List Cond) (ps : List Nat) (hp : ws = ps.filterMap (fun i => big[i]?)) (h : ws.all goodWord = true) : GoodIn big ws := by
  intro w hw
  have h1 := List.all_eq_true.mp h w hw
  rw [hp] at hw
  obtain ⟨i, -, hi⟩ := List.mem_filterMap.mp hw
  have hm : w ∈ big := by first | exact List.mem_of_getElem? hi | exact List.getElem?_mem hi
  exact ⟨hm, good_of_word h1⟩
theorem goodIn_app {big a b : List Cond} (ha : GoodIn big a) (hb : GoodIn big b) : GoodIn big (a ++ b) := fun w h => (List.mem_append.mp h).elim (ha w) (hb w)
theorem goodIn_ca {big a b : List Cond} {c : Cond} (ha : GoodIn big (c :: a)) (hb : GoodIn big b) : GoodIn big (c :: (a ++ b)) := fun w h => (List.mem_cons.mp h).elim (fun e => ha w (List.mem_cons.mpr (Or.inl e))) (fun h => (List.mem_append.mp h).elim (fun h => ha w (List.mem_cons.mpr (Or.inr h))) (hb w))
theorem goodIn_sub {big ws : List Cond} (hm : ∀ w ∈ ws, w ∈ big) (h : ws.all goodWord = true) : GoodIn big ws := fun w hw => ⟨hm w hw, good_of_word (List.all_eq_true.mp h w hw)⟩
/-! ===== END ===== -/

/-! ===== BEGIN exceptions that leave a method, and their catching by the caller (launches without stack traces) ===== -/
section VXA
/-! The laws vx_back, vx_callV, vx_callS, vx_callSW, vx_throw0, vx_throwS follow proofs of the library, with one case more: JvmDerived/Free/Laws.lean (Back.of_free), Shelf42/LK1.lean (callV, callS), Shelf/KitTraced.lean (throwNew0V, throwNewS). -/
/-- where a method has thrown q: the class by its name, the cell, what was written, the world -/
def vx_T (XC : String → State → State → Prop) (st : State) (q : Addr) (t : State) (mc ms : Nat) (free : Addr → Prop) : Prop :=
  ∃ (E : String) (ce : Cell) (L : List Loc), XC E st t ∧ t.heap[q]? = some ce ∧ ce.vm = .none ∧ st.vm.findClass E = some ce.cls ∧ st.WarmedH t.vm ∧ st.sameButNew ({ t with vm := st.vm } : State) L mc ms ∧ ∀ z ∈ L, free z.base
def vx_Q (Qc : Array Value → State → Outcome → State → Prop) (XC : String → State → State → Prop) (mc ms : Nat) (free : Addr → Prop) : Array Value → State → Outcome → State → Prop := fun a st o t =>
  (Qc a st o t ∧ ∃ L, FrameEnd st o t L mc ms ∧ ∀ q ∈ L, free q.base) ∨ ∃ q, o = .threw q ∧ vx_T XC st q t mc ms free
/-- a callee that returns or throws -/
def vx_Met (l : Launch) (y : MethodName) (ws : List Cond) (rm : Room) (Pc : Array Value → State → Prop) (Qc : Array Value → State → Outcome → State → Prop) (XC : String → State → State → Prop) (mc ms : Nat) (free : Addr → Prop) : Prop :=
  MetFree l y (headSpec ws rm) Pc (fun _ _ _ _ _ => True) (vx_Q Qc XC mc ms free)
def vx_Post (XC : String → State → State → Prop) (mc ms : Nat) (free : Addr → Prop) : Pt → Array Value → Addr → Pt → Prop := fun A a q B =>
  ∃ (g : JFrame) (mk : MethodId) (t : State) (L : List Loc) (E : String) (ce : Cell), B.U.heap = t.heap ∧ B.U.vm = t.vm ∧ XC E (A.U.calling g mk a) t ∧ t.heap[q]? = some ce ∧ ce.vm = .none ∧ A.U.vm.findClass E = some ce.cls ∧ B.locs = A.locs ++ L ∧ (∀ z ∈ L, free z.base) ∧ B.cells = A.cells + mc ∧ B.slots = A.slots + ms
def vx_Back (l : Launch) (R : Room) (p : Program) (e : Env) (below : List Frame) (s : State) (sargs : Array Value) (y : MethodName) (len W9 : Nat)
    (Pre : Pt → Array Value → Prop) (Post : Pt → Array Value → Option Value → Pt → Prop) (PostX : Pt → Array Value → Addr → Pt → Prop) : Prop :=
  ∀ (m : MethodId) (meth : Method) (c : Code) (A : Pt) (g : JFrame) (ig : Instr) (mk : MethodId) (a : Array Value),
    Stand p l e R s m sargs below meth c A.U A.locs A.cells A.slots → g.method = m → g.locals.size = c.maxLocals → decode c.code g.pc = .ok (ig, len) →
    2 * g.monitorRoom + (g.stack.map fun v => v.category).sum ≤ W9 → A.U.methodNamed? y = some mk → Pre A a →
    (∃ (v : Option Value) (B : Pt), Stand p l e R s m sargs below meth c B.U B.locs B.cells B.slots ∧ Post A a v B ∧
      Steps p.tables e below (doInvoke e (A.U.setTop g) [] mk a).1 (B.U.setTop { g with pc := g.pc + len, stack := v.toList ++ g.stack })) ∨
    (∃ (q : Addr) (B : Pt), Stand p l e R s m sargs below meth c B.U B.locs B.cells B.slots ∧ PostX A a q B ∧
      Steps p.tables e below (doInvoke e (A.U.setTop g) [] mk a).1 ((B.U.setTop g).pushFrame (.throwing q)))
section Payer
variable {l : Launch} {R : Room} {p : Program} {e : Env} {below : List Frame} {s : State} {sargs : Array Value} {y : MethodName} {len W9 : Nat}
theorem vx_back {ws : List Cond} {rm : Room} {Pc : Array Value → State → Prop} {Qc : Array Value → State → Outcome → State → Prop} {XC : String → State → State → Prop} {mc ms : Nat} {free : Addr → Prop} {bytes : ByteArray} {maxL : Nat} {ret : Option FieldType}
    (hM : vx_Met l y ws rm Pc Qc XC mc ms free) (hblind : FrameBlind Pc) (hrc : rm.cells = mc) (hrs : rm.slots = ms)
    (hframes : rm.frames + 1 ≤ R.frames) (hlocals : W9 + (maxL + 11) + rm.locals ≤ R.locals)
    (hws : ∀ w ∈ ws, ∀ a' U, s.WarmedH U.vm → w.before a' U = true) (hcode : Cond.code y bytes maxL ret ∈ ws) (hinit : ∀ a' U, s.WarmedH U.vm → (Cond.initialized y.cls).before a' U = true) :
    vx_Back l R p e below s sargs y len W9 (PreOf R mc ms Pc) (PostOf Qc mc ms free) (vx_Post XC mc ms free) := by
  intro m meth c A g ig mk a X hg hsize hdg hW hn hp
  have h1 : (headSpec ws rm).pre.before a A.U = true := atoms_intro fun w hw => hws w hw _ _ X.warmed
  have h2 : (Cond.code y bytes maxL ret).before a A.U = true := hws _ hcode _ _ X.warmed
  have h3 : (Cond.initialized y.cls).before a A.U = true := hinit _ _ X.warmed
  have h4 : A.cells + (headSpec ws rm).room.cells ≤ R.cells := by rw [show (headSpec ws rm).room.cells = mc from hrc]; exact hp.1
  have h5 : A.slots + (headSpec ws rm).room.slots ≤ R.slots := by rw [show (headSpec ws rm).room.slots = ms from hrs]; exact hp.2.1
  have hPc : Pc a (A.U.calling g mk a) := hblind _ _ _ _ hp.2.2
  obtain ⟨U, Ls, c0, s0⟩ := A
  dsimp only [Pt.U, Pt.locs, Pt.cells, Pt.slots] at h1 h2 h3 h4 h5 X hn hPc ⊢
  obtain ⟨methY, cY, hmY, hcY, -, hlY, -, -, -, -⟩ := Cond.code_spec hn h2
  obtain ⟨kY, hkY, -⟩ := className_of_methodNamed hn
  have hinitY : kY.init = .initialized := Cond.initialized_spec (findClass_of_methodNamed hn) hkY h3
  have h : At U g.method c below := by rw [hg]; exact X.here
  have hlocals9 : W9 + (maxL + 11) + (headSpec ws rm).room.locals ≤ R.locals := hlocals
  have happ : (headSpec ws rm).appliesLoose y e.platform (U.calling g mk a) = true :=
    Spec.appliesLoose_calling (g := g) h hdg hn hkY hinitY
      (X.room_calling (g := g) (R' := (headSpec ws rm).room) hsize hmY hcY hframes (by rw [hlY]; omega) h4 h5) h1
  obtain ⟨mid, hmid⟩ := h.above
  have hfr : (U.setTop g).frames = (.java g :: mid) ++ below := by rw [State.frames_setTop' g h.top, hmid]; rfl
  obtain ⟨o, s₂, hsteps, -, hend, hq⟩ := Steps.callFree hM p X.admits X.cas X.clock (acts := []) hfr happ hPc trivial
  have hq' : vx_Q Qc XC mc ms free a (U.calling g mk a) o s₂ := hq
  rw [State.frames_setTop' g h.top] at hend
  obtain ⟨g₀, hg0⟩ := Option.isSome_iff_exists.mp h.top
  obtain ⟨r, hr⟩ := State.topJava?_eq_some.mp hg0
  have hr' : (({ U with heap := s₂.heap, slotsUsed := s₂.slotsUsed } : State).setVm s₂.vm).frames = .java g₀ :: r := hr
  rcases hq' with ⟨hqc, L, hfe, hL⟩ | ⟨q, rfl, E, ce, L, hx, hce, hcv, hcl, hW₂, hsm, hL⟩
  · obtain ⟨⟨v, rfl⟩, hW₂, e2, q2, q3, q4, q5, q6⟩ := id hfe
    have e3 : s₂ = ({ (U.calling g mk a).setFrames s₂.frames with heap := s₂.heap, slotsUsed := s₂.slotsUsed } : State).setVm s₂.vm := by
      have : s₂ = ({ s₂ with vm := (U.calling g mk a).vm } : State).setVm s₂.vm := rfl
      rw [e2] at this
      exact this
    obtain ⟨c₂, i₂, len₂, hc₂, hd₂, hf₂⟩ := hend
    have hW' : U.WarmedH s₂.vm := hW₂
    have hcc : c₂ = c := by
      have h1 : s₂.code? g.method = U.code? g.method := by
        rw [State.code?_eq, State.code?_eq, hW'.alike.method?]
      exact Option.some.inj (hc₂.symm.trans (h1.trans h.code))
    subst hcc
    have hlen : len₂ = len := by rw [hdg] at hd₂; cases hd₂; rfl
    subst hlen
    have hs₂ : s₂ = (({ U with heap := s₂.heap, slotsUsed := s₂.slotsUsed } : State).setVm s₂.vm).setTop { g with pc := g.pc + len₂, stack := v.toList ++ g.stack } := by
      refine e3.trans ?_
      rw [hf₂, State.calling_eq h.top, State.setFrames_setFrames, State.setTop_of_frames _ hr', hr]
      rfl
    have hsame : U.sameButNew ({ U with heap := s₂.heap, slotsUsed := s₂.slotsUsed } : State) L mc ms := by
      refine ⟨?_, q2, q3, q4, q5, q6⟩
      obtain ⟨t, ht, -⟩ := State.frames_cons hr
      show ({ U with heap := s₂.heap, slotsUsed := s₂.slotsUsed } : State) = { U.setFrames U.frames with heap := s₂.heap, slotsUsed := s₂.slotsUsed }
      rw [State.setFrames_self ht]
    subst hg
    refine Or.inl ⟨v, ⟨(({ U with heap := s₂.heap, slotsUsed := s₂.slotsUsed } : State).setVm s₂.vm), Ls ++ L, c0 + mc, s0 + ms⟩,
      ⟨X.admits, X.cas, X.clock, X.frames, X.room, X.hears, X.method, X.code, (X.here.setHeapUsed s₂.heap s₂.slotsUsed).setVm hW'.alike, X.tail, State.WarmedH.trans X.warmed hW', X.limits, X.bytes, X.same.trans (hsame.setVm s.vm)⟩,
      ⟨g, mk, s₂, L, rfl, rfl, hqc, rfl, hL, rfl, rfl⟩, ?_⟩
    show Steps p.tables e below _ ((({ U with heap := s₂.heap, slotsUsed := s₂.slotsUsed } : State).setVm s₂.vm).setTop { g with pc := g.pc + len₂, stack := v.toList ++ g.stack })
    rw [← hs₂]
    exact hsteps
  · obtain ⟨e2, q2, q3, q4, q5, q6⟩ := id hsm
    have e3 : s₂ = ({ (U.calling g mk a).setFrames s₂.frames with heap := s₂.heap, slotsUsed := s₂.slotsUsed } : State).setVm s₂.vm := by
      have : s₂ = ({ s₂ with vm := (U.calling g mk a).vm } : State).setVm s₂.vm := rfl
      rw [e2] at this
      exact this
    have hf₂ : s₂.frames = .throwing q :: .java g :: U.frames.tail := hend
    have hW' : U.WarmedH s₂.vm := hW₂
    have hs₂ : s₂ = ((({ U with heap := s₂.heap, slotsUsed := s₂.slotsUsed } : State).setVm s₂.vm).setTop g).pushFrame (.throwing q) := by
      refine e3.trans ?_
      rw [hf₂, State.calling_eq h.top, State.setFrames_setFrames, State.pushFrame, State.frames_setTop _ hr', State.setTop_of_frames _ hr', State.setFrames_setFrames, hr]
      rfl
    have hsame : U.sameButNew ({ U with heap := s₂.heap, slotsUsed := s₂.slotsUsed } : State) L mc ms := by
      refine ⟨?_, q2, q3, q4, q5, q6⟩
      obtain ⟨t, ht, -⟩ := State.frames_cons hr
      show ({ U with heap := s₂.heap, slotsUsed := s₂.slotsUsed } : State) = { U.setFrames U.frames with heap := s₂.heap, slotsUsed := s₂.slotsUsed }
      rw [State.setFrames_self ht]
    subst hg
    refine Or.inr ⟨q, ⟨(({ U with heap := s₂.heap, slotsUsed := s₂.slotsUsed } : State).setVm s₂.vm), Ls ++ L, c0 + mc, s0 + ms⟩,
      ⟨X.admits, X.cas, X.clock, X.frames, X.room, X.hears, X.method, X.code, (X.here.setHeapUsed s₂.heap s₂.slotsUsed).setVm hW'.alike, X.tail, State.WarmedH.trans X.warmed hW', X.limits, X.bytes, X.same.trans (hsame.setVm s.vm)⟩,
      ⟨g, mk, s₂, L, E, ce, rfl, rfl, hx, hce, hcv, hcl, rfl, hL, rfl, rfl⟩, ?_⟩
    show Steps p.tables e below _ (((({ U with heap := s₂.heap, slotsUsed := s₂.slotsUsed } : State).setVm s₂.vm).setTop g).pushFrame (.throwing q))
    rw [← hs₂]
    exact hsteps
end Payer
section Calls
variable {p : Program} {l : Launch} {e : Env} {R : Room} {s : State} {m : MethodId} {args : Array Value} {below : List Frame} {meth : Method} {c : Code} {T : State} {locs : List Loc} {cells slots : Nat}
theorem vx_callV (X : Stand p l e R s m args below meth c T locs cells slots) (hexec : p.tables.exec = Jvm.exec) {own C : String} {index : Nat} {y : MethodName} {bytes : ByteArray} {maxL : Nat} {ret : Option FieldType}
    (hown : s.vm.findClass own = some m.cls) (hlink : (Cond.methodLink own index y).before args s = true) (hinst : (Cond.instanceMethod y).before args s = true) (hsel : (Cond.selects C y y).before args s = true)
    (hcode : (Cond.code y bytes maxL ret).before args s = true) (hy : y.cls ≠ "java/lang/invoke/MethodHandle" ∧ y.cls ≠ "java/lang/invoke/VarHandle")
    {W9 : Nat} {Pre : Pt → Array Value → Prop} {Post : Pt → Array Value → Option Value → Pt → Prop} {PostX : Pt → Array Value → Addr → Pt → Prop} (hK : vx_Back l R p e below s args y 3 W9 Pre Post PostX)
    {b : Addr} {cellB : Cell} (hcell : T.heap[b]? = some cellB) (hobj : cellB.vm.isStatics = false) (hcls : s.vm.findClass C = some cellB.cls)
    {g : JFrame} (hg : g.method = m) (hsize : g.locals.size = c.maxLocals) {argsL rest : List Value} (hlen : ∀ sig, parseMethodDescriptor y.desc = some sig → argsL.length = sig.parameters.length)
    (hstack : g.stack = argsL.reverse ++ .ref b :: rest) (hW : 2 * g.monitorRoom + (rest.map fun v => v.category).sum ≤ W9) (hdg : decode c.code g.pc = .ok (.invokevirtual index, 3))
    (hpre : ∀ vm₁, s.WarmedH vm₁ → Pre ⟨T.setVm vm₁, locs, cells, slots⟩ (Value.ref b :: argsL).toArray) :
    (∃ (v : Option Value) (vm₁ : Vm) (B : Pt), s.WarmedH vm₁ ∧ Stand p l e R s m args below meth c B.U B.locs B.cells B.slots ∧ Post ⟨T.setVm vm₁, locs, cells, slots⟩ (Value.ref b :: argsL).toArray v B ∧
      ∀ target, Steps p.tables e below (B.U.setTop { g with pc := g.pc + 3, stack := v.toList ++ rest }) target → Steps p.tables e below (T.setTop g) target) ∨
    (∃ (q : Addr) (vm₁ : Vm) (B : Pt), s.WarmedH vm₁ ∧ Stand p l e R s m args below meth c B.U B.locs B.cells B.slots ∧ PostX ⟨T.setVm vm₁, locs, cells, slots⟩ (Value.ref b :: argsL).toArray q B ∧
      Steps p.tables e below (T.setTop g) ((B.U.setTop { g with stack := rest }).pushFrame (.throwing q))) := by
  obtain ⟨mk, methM, hnamed, hmethM, hstM, habM⟩ := Cond.instanceMethod_spec hinst
  obtain ⟨methM', cM, hmethM', -, -, -, -, -, -, hsigM⟩ := Cond.code_spec hnamed hcode
  cases hmethM.symm.trans hmethM'
  obtain ⟨c2, r2, m2, q1, q2, q3, q4, kP, hkP, hkPi⟩ := Cond.selects_spec hsel
  cases hcls.symm.trans q1
  cases (State.methodFound?_of_named hnamed hy).symm.trans q2
  cases hnamed.symm.trans q3
  have hselP : selectMethod e.platform s.vm cellB.cls mk = .method mk := by rw [Launch.admits_selectMethod X.admits]; exact q4
  obtain ⟨vm₁, X₁, hstep₁⟩ := X.invokevirtual hexec hown hlink hnamed hmethM hstM hkP hkPi hy (a := b) (cell := cellB) hcell
    (fun z h => by rw [h] at hobj; cases hobj) hselP hmethM habM hkP hkPi (g := g) hg (argsL := argsL) (rest := rest) (hlen _ hsigM) hstack hdg
  rcases hK m meth c ⟨T.setVm vm₁, locs, cells, slots⟩ { g with stack := rest } (.invokevirtual index) mk (Value.ref b :: argsL).toArray X₁ hg hsize hdg hW (X₁.named hnamed) (hpre vm₁ X₁.warmed) with ⟨v, B, X', hpost, hsteps⟩ | ⟨q, B, X', hpost, hsteps⟩
  · exact Or.inl ⟨v, vm₁, B, X₁.warmed, X', hpost, fun target h => hstep₁ _ fun acts => by rw [doInvoke_state]; exact hsteps.trans h⟩
  · exact Or.inr ⟨q, vm₁, B, X₁.warmed, X', hpost, hstep₁ _ fun acts => by rw [doInvoke_state]; exact hsteps⟩
theorem vx_callS (X : Stand p l e R s m args below meth c T locs cells slots) (hexec : p.tables.exec = Jvm.exec) {own : String} {index : Nat} {y : MethodName} {bytes : ByteArray} {maxL : Nat} {ret : Option FieldType}
    (hown : s.vm.findClass own = some m.cls) (hlink : (Cond.methodLink own index y).before args s = true) (hstat : (Cond.static y).before args s = true) (hinit : (Cond.initialized y.cls).before args s = true)
    (hcode : (Cond.code y bytes maxL ret).before args s = true) (hy : y.cls ≠ "java/lang/invoke/MethodHandle" ∧ y.cls ≠ "java/lang/invoke/VarHandle")
    {W9 : Nat} {Pre : Pt → Array Value → Prop} {Post : Pt → Array Value → Option Value → Pt → Prop} {PostX : Pt → Array Value → Addr → Pt → Prop} (hK : vx_Back l R p e below s args y 3 W9 Pre Post PostX)
    {g : JFrame} (hg : g.method = m) (hsize : g.locals.size = c.maxLocals) {argsL rest : List Value} (hlen : ∀ sig, parseMethodDescriptor y.desc = some sig → argsL.length = sig.parameters.length)
    (hstack : g.stack = argsL.reverse ++ rest) (hW : 2 * g.monitorRoom + (rest.map fun v => v.category).sum ≤ W9) (hdg : decode c.code g.pc = .ok (.invokestatic index, 3))
    (hpre : ∀ vm₁, s.WarmedH vm₁ → Pre ⟨T.setVm vm₁, locs, cells, slots⟩ argsL.toArray) :
    (∃ (v : Option Value) (vm₁ : Vm) (B : Pt), s.WarmedH vm₁ ∧ Stand p l e R s m args below meth c B.U B.locs B.cells B.slots ∧ Post ⟨T.setVm vm₁, locs, cells, slots⟩ argsL.toArray v B ∧
      ∀ target, Steps p.tables e below (B.U.setTop { g with pc := g.pc + 3, stack := v.toList ++ rest }) target → Steps p.tables e below (T.setTop g) target) ∨
    (∃ (q : Addr) (vm₁ : Vm) (B : Pt), s.WarmedH vm₁ ∧ Stand p l e R s m args below meth c B.U B.locs B.cells B.slots ∧ PostX ⟨T.setVm vm₁, locs, cells, slots⟩ argsL.toArray q B ∧
      Steps p.tables e below (T.setTop g) ((B.U.setTop { g with stack := rest }).pushFrame (.throwing q))) := by
  obtain ⟨mk, hnamed⟩ := Cond.code_named hcode
  obtain ⟨methM, cM, hmethM, -, -, -, -, -, -, hsigM⟩ := Cond.code_spec hnamed hcode
  have hstatic : methM.isStatic = true := Cond.static_spec hnamed hmethM hstat
  obtain ⟨kP, hkP, -⟩ := className_of_methodNamed hnamed
  have hinitP : kP.init = .initialized := Cond.initialized_spec (findClass_of_methodNamed hnamed) hkP hinit
  obtain ⟨vm₁, X₁, hstep₁⟩ := X.invokestatic hexec hown hlink hnamed hmethM hstatic hkP hinitP hy (g := g) hg (argsL := argsL) (rest := rest) (hlen _ hsigM) hstack hdg
  rcases hK m meth c ⟨T.setVm vm₁, locs, cells, slots⟩ { g with stack := rest } (.invokestatic index) mk argsL.toArray X₁ hg hsize hdg hW (X₁.named hnamed) (hpre vm₁ X₁.warmed) with ⟨v, B, X', hpost, hsteps⟩ | ⟨q, B, X', hpost, hsteps⟩
  · exact Or.inl ⟨v, vm₁, B, X₁.warmed, X', hpost, fun target h => hstep₁ _ fun acts => by rw [doInvoke_state]; exact hsteps.trans h⟩
  · exact Or.inr ⟨q, vm₁, B, X₁.warmed, X', hpost, hstep₁ _ fun acts => by rw [doInvoke_state]; exact hsteps⟩
end Calls
theorem vx_cls {s : State} {T : State} {vm₁ : Vm} {E : String} {k : ClassId} (hW : s.WarmedH vm₁) (h : (T.setVm vm₁).vm.findClass E = some k) : s.vm.findClass E = some k := by
  have h1 : vm₁.findClass E = some k := h
  rw [hW.alike.findClass] at h1
  exact h1
/-- the method's frame g, with q thrown over it -/
def vx_W (p : Program) (l : Launch) (e : Env) (R : Room) (s : State) (m : MethodId) (args : Array Value) (below : List Frame) (meth : Method) (c : Code) (H : Heap) (locs : List Loc) (cells slots : Nat) (Q : State → Prop) (g : JFrame) (q : Addr) : Prop :=
  ∀ T : State, T.heap = H → Stand p l e R s m args below meth c T locs cells slots → ∃ t, Steps p.tables e below ((T.setTop g).pushFrame (.throwing q)) t ∧ Q t
def vx_Run (p : Program) (l : Launch) (e : Env) (R : Room) (s : State) (m : MethodId) (args : Array Value) (below : List Frame) (meth : Method) (c : Code) (H : Heap) (locs : List Loc) (cells slots mc ms : Nat) (g : JFrame) (rest : List Value) (Qa : State → Outcome → State → Prop) (XC : String → State → State → Prop) (free : Addr → Prop) : Prop :=
  ∀ T : State, T.heap = H → Stand p l e R s m args below meth c T locs cells slots →
    (∃ (v : Option Value) (st₀ t T' : State) (L : List Loc), st₀.heap = H ∧ Stand p l e R s m args below meth c T' (locs ++ L) (cells + mc) (slots + ms) ∧ (∀ q ∈ L, free q.base) ∧ T'.heap = t.heap ∧ T'.vm = t.vm ∧ Qa st₀ (.returned v) t ∧
      Goes p e below T g T' { g with pc := g.pc + 3, stack := v.toList ++ rest }) ∨
    (∃ (q : Addr) (st₀ t T' : State) (L : List Loc) (E : String) (ce : Cell), st₀.heap = H ∧ Stand p l e R s m args below meth c T' (locs ++ L) (cells + mc) (slots + ms) ∧ (∀ z ∈ L, free z.base) ∧ T'.heap = t.heap ∧ T'.vm = t.vm ∧ XC E st₀ t ∧ t.heap[q]? = some ce ∧ ce.vm = .none ∧ s.vm.findClass E = some ce.cls ∧
      Steps p.tables e below (T.setTop g) ((T'.setTop { g with stack := rest }).pushFrame (.throwing q)))
def vx_X {S : Type} (px : S → Prop) (B : String → S → State → Prop) (A : Nat → Prop) : String → State → State → Prop := fun E st t => ∃ u : S, px u ∧ B E u t ∧ va_F A st t
section Runs
variable {p : Program} {l : Launch} {e : Env} {R : Room} {s : State} {m : MethodId} {args : Array Value} {below : List Frame} {meth : Method} {c : Code} {H : Heap} {locs : List Loc} {cells slots : Nat}
variable {y : MethodName} {bytes cc : ByteArray} {maxL nL mc ms n index : Nat} {ret : Option FieldType} {ws : List Cond} {rm : Room} {Pc : Array Value → State → Prop} {Qc : Array Value → State → Outcome → State → Prop} {XC : String → State → State → Prop} {free : Addr → Prop} {Ts : List Cond} {own C : String} {b : Addr} {As rest : List Value} {g : JFrame}
theorem vx_callBack (cb : CallB R s args own index y bytes maxL ret ws rm mc ms n) (hM : vx_Met l y ws rm Pc Qc XC mc ms free) (hbl : FrameBlind Pc) : vx_Back l R p e below s args y 3 8 (PreOf R mc ms Pc) (PostOf Qc mc ms free) (vx_Post XC mc ms free) := by
  obtain ⟨hrc, hrs, hfr, hlo, hws, hcw, -, hini, -⟩ := cb
  exact vx_back (bytes := bytes) (maxL := maxL) (ret := ret) hM hbl hrc hrs hfr hlo hws hcw (fun a' U hW => word_at hW (Or.inl (by first | rfl | simp [Cond.onTables, Cond.keeps, Cond.steady])) hini)
theorem vx_runV (S : CallFix p m c cc nL s args Ts own) (hM : vx_Met l y ws rm Pc Qc XC mc ms free) (cw : CallW R s args own C index y bytes maxL ret ws rm mc ms n) (hp : PreV s H C b Pc As)
    (hg : g.method = m) (hn : As.length = n) (hsize : g.locals.size = nL) (hstack : g.stack = As.reverse ++ .ref b :: rest) (hW : 2 * g.monitorRoom + (rest.map fun v => v.category).sum ≤ 8) (hdg : decode cc g.pc = .ok (.invokevirtual index, 3)) (hf : cells + mc ≤ R.cells ∧ slots + ms ≤ R.slots) :
    vx_Run p l e R s m args below meth c H locs cells slots mc ms g rest (Qc (Value.ref b :: As).toArray) XC free := by
  have hK : vx_Back l R p e below s args y 3 8 (PreOf R mc ms Pc) (PostOf Qc mc ms free) (vx_Post XC mc ms free) := vx_callBack cw.1 hM hp.1
  obtain ⟨⟨-, -, -, -, -, -, hcode, -, hy, hlen, hl⟩, hin, hse⟩ := cw
  obtain ⟨hx, hb, hml, ho, -⟩ := S
  obtain ⟨-, ⟨cellB, hcB, hoB, hclB⟩, hPc⟩ := hp
  intro T hT X
  rcases vx_callV X hx (C := C) (bytes := bytes) (maxL := maxL) (ret := ret) ho hl hin hse hcode hy hK (by rw [hT]; exact hcB) hoB hclB hg (hsize.trans hml.symm) (argsL := As) (rest := rest) (fun sig h => hn.trans (hlen sig h)) hstack hW (by rw [hb]; exact hdg)
    (fun vm₁ hW₁ => ⟨hf.1, hf.2, hPc (T.setVm vm₁) hT hW₁⟩) with ⟨v, vm₁, ⟨U', l2, c2, s2⟩, hW₁, X', ⟨g', mk, t, L, e1, e2, hq, h1, hL, h2, h3⟩, st⟩ | ⟨q, vm₁, ⟨U', l2, c2, s2⟩, hW₁, X', ⟨g', mk, t, L, E, ce, e1, e2, hq, hce, hcv, hcl, h1, hL, h2, h3⟩, st⟩
  · dsimp only [Pt.U, Pt.locs, Pt.cells, Pt.slots] at X' e1 e2 h1 h2 h3 st
    subst h1; subst h2; subst h3
    exact Or.inl ⟨v, (T.setVm vm₁).calling g' mk (Value.ref b :: As).toArray, t, U', L, hT, X', hL, e1, e2, hq, st⟩
  · dsimp only [Pt.U, Pt.locs, Pt.cells, Pt.slots] at X' e1 e2 h1 h2 h3 st hcl
    subst h1; subst h2; subst h3
    exact Or.inr ⟨q, (T.setVm vm₁).calling g' mk (Value.ref b :: As).toArray, t, U', L, E, ce, hT, X', hL, e1, e2, hq, hce, hcv, vx_cls hW₁ hcl, st⟩
theorem vx_runS (S : CallFix p m c cc nL s args Ts own) (hM : vx_Met l y ws rm Pc Qc XC mc ms free) (cw : CallB R s args own index y bytes maxL ret ws rm mc ms n ∧ (Cond.static y).before args s = true) (hp : PreS s H Pc As)
    (hg : g.method = m) (hn : As.length = n) (hsize : g.locals.size = nL) (hstack : g.stack = As.reverse ++ rest) (hW : 2 * g.monitorRoom + (rest.map fun v => v.category).sum ≤ 8) (hdg : decode cc g.pc = .ok (.invokestatic index, 3)) (hf : cells + mc ≤ R.cells ∧ slots + ms ≤ R.slots) :
    vx_Run p l e R s m args below meth c H locs cells slots mc ms g rest (Qc As.toArray) XC free := by
  have hK : vx_Back l R p e below s args y 3 8 (PreOf R mc ms Pc) (PostOf Qc mc ms free) (vx_Post XC mc ms free) := vx_callBack cw.1 hM hp.1
  obtain ⟨⟨-, -, -, -, -, -, hcode, hini, hy, hlen, hl⟩, hstt⟩ := cw
  obtain ⟨hx, hb, hml, ho, -⟩ := S
  intro T hT X
  rcases vx_callS X hx (bytes := bytes) (maxL := maxL) (ret := ret) ho hl hstt hini hcode hy hK hg (hsize.trans hml.symm) (argsL := As) (rest := rest) (fun sig h => hn.trans (hlen sig h)) hstack hW (by rw [hb]; exact hdg)
    (fun vm₁ hW₁ => ⟨hf.1, hf.2, hp.2 (T.setVm vm₁) hT hW₁⟩) with ⟨v, vm₁, ⟨U', l2, c2, s2⟩, hW₁, X', ⟨g', mk, t, L, e1, e2, hq, h1, hL, h2, h3⟩, st⟩ | ⟨q, vm₁, ⟨U', l2, c2, s2⟩, hW₁, X', ⟨g', mk, t, L, E, ce, e1, e2, hq, hce, hcv, hcl, h1, hL, h2, h3⟩, st⟩
  · dsimp only [Pt.U, Pt.locs, Pt.cells, Pt.slots] at X' e1 e2 h1 h2 h3 st
    subst h1; subst h2; subst h3
    exact Or.inl ⟨v, (T.setVm vm₁).calling g' mk As.toArray, t, U', L, hT, X', hL, e1, e2, hq, st⟩
  · dsimp only [Pt.U, Pt.locs, Pt.cells, Pt.slots] at X' e1 e2 h1 h2 h3 st hcl
    subst h1; subst h2; subst h3
    exact Or.inr ⟨q, (T.setVm vm₁).calling g' mk As.toArray, t, U', L, E, ce, hT, X', hL, e1, e2, hq, hce, hcv, vx_cls hW₁ hcl, st⟩
end Runs
section Rows
variable {p : Program} {l : Launch} {e : Env} {R : Room} {s : State} {m : MethodId} {args : Array Value} {below : List Frame} {meth : Method} {c : Code} {H : Heap} {locs : List Loc} {cells slots : Nat} {Q : State → Prop}
variable {mc ms : Nat} {free : Addr → Prop} {A0 A1 : Nat → Prop} {H0 : Heap} {a : Array Value} {pc : Nat} {ls : Array Slot} {st0 rest : List Value}
theorem vx_keep {st₀ t T' : State} {L : List Loc} (h0 : st₀.heap = H) (e1 : T'.heap = t.heap) (hS : va_S A0 H0 H locs) (hA : ∀ q, q < H.size → A1 q → A0 q) (hf : ∀ q, free q → A0 q) (hL : ∀ q ∈ L, free q.base) (hF : va_F A1 st₀ t) :
    H.size ≤ T'.heap.size ∧ (∀ q : Nat, q < H.size → ¬ A1 q → T'.heap[q]? = H[q]?) ∧ va_S A0 H0 T'.heap (locs ++ L) := by
  obtain ⟨hz, hk⟩ := hF
  rw [h0] at hz hk
  exact ⟨by rw [e1]; exact hz, fun q h1 h2 => by rw [e1]; exact hk q h1 h2,
    ⟨Nat.le_trans hS.1 (by rw [e1]; exact hz), fun q h1 h2 => by rw [e1, hk q (Nat.lt_of_lt_of_le h1 hS.1) (fun z => h2 (hA q (Nat.lt_of_lt_of_le h1 hS.1) z))]; exact hS.2.1 q h1 h2, fun q hq => by
      rcases List.mem_append.mp hq with h | h
      · exact hS.2.2 q h
      · exact hf _ (hL q h)⟩⟩
theorem vx_calli {S SX : Type} {post : Int32 → S → Prop} {px : SX → Prop} {B : S → State → Prop} {BX : String → SX → State → Prop} {AX : Nat → Prop} (hr : vx_Run p l e R s m args below meth c H locs cells slots mc ms (F0 m pc ls st0) rest (va_Qi post B A1 a) (vx_X px BX AX) free) (hS : va_S A0 H0 H locs) (hA : ∀ q, q < H.size → A1 q → A0 q) (hf : ∀ q, free q → A0 q) (hAX : ∀ q, q < H.size → AX q → A0 q)
    (kx : ∀ (E : String) (ce : Cell) (q9 : Addr) (u : SX) (t : State) (H1 : Heap) (locs1 : List Loc), t.heap = H1 → s.vm.Alike t.vm → px u → BX E u t → H.size ≤ H1.size → (∀ q : Nat, q < H.size → ¬ AX q → H1[q]? = H[q]?) → va_S A0 H0 H1 locs1 → H1[q9]? = some ce → ce.vm = .none → s.vm.findClass E = some ce.cls → vx_W p l e R s m args below meth c H1 locs1 (cells + mc) (slots + ms) Q (F0 m pc ls rest) q9)
    (kk : ∀ (r : Int32) (u : S) (t : State) (H1 : Heap) (locs1 : List Loc), t.heap = H1 → s.vm.Alike t.vm → post r u → B u t → H.size ≤ H1.size → (∀ q : Nat, q < H.size → ¬ A1 q → H1[q]? = H[q]?) → va_S A0 H0 H1 locs1 → W p l e R s m args below meth c H1 locs1 (cells + mc) (slots + ms) Q (F0 m (pc + 3) ls (.int r :: rest))) : W p l e R s m args below meth c H locs cells slots Q (F0 m pc ls st0) := by
  intro T hT X
  rcases hr T hT X with ⟨v, st₀, t, T', L, h0, X', hL, e1, e2, ⟨⟨r, u, hv, hp, hb⟩, hF⟩, st⟩ | ⟨q, st₀, t, T', L, E, ce, h0, X', hL, e1, e2, ⟨u, hp, hb, hF⟩, hce, hcv, hcl, st⟩
  · cases hv
    obtain ⟨k1, k2, k3⟩ := vx_keep h0 e1 hS hA hf hL hF
    obtain ⟨t2, a1, b1⟩ := kk r u t T'.heap (locs ++ L) e1.symm (by rw [← e2]; exact X'.warmed.alike) hp hb k1 k2 k3 T' rfl X'
    exact ⟨t2, st t2 a1, b1⟩
  · obtain ⟨k1, k2, k3⟩ := vx_keep h0 e1 hS hAX hf hL hF
    obtain ⟨t2, a1, b1⟩ := kx E ce q u t T'.heap (locs ++ L) e1.symm (by rw [← e2]; exact X'.warmed.alike) hp hb k1 k2 k3 (by rw [e1]; exact hce) hcv hcl T' rfl X'
    exact ⟨t2, st.trans a1, b1⟩
theorem vx_calll {S SX : Type} {post : Int64 → S → Prop} {px : SX → Prop} {B : S → State → Prop} {BX : String → SX → State → Prop} {AX : Nat → Prop} (hr : vx_Run p l e R s m args below meth c H locs cells slots mc ms (F0 m pc ls st0) rest (va_Ql post B A1 a) (vx_X px BX AX) free) (hS : va_S A0 H0 H locs) (hA : ∀ q, q < H.size → A1 q → A0 q) (hf : ∀ q, free q → A0 q) (hAX : ∀ q, q < H.size → AX q → A0 q)
    (kx : ∀ (E : String) (ce : Cell) (q9 : Addr) (u : SX) (t : State) (H1 : Heap) (locs1 : List Loc), t.heap = H1 → s.vm.Alike t.vm → px u → BX E u t → H.size ≤ H1.size → (∀ q : Nat, q < H.size → ¬ AX q → H1[q]? = H[q]?) → va_S A0 H0 H1 locs1 → H1[q9]? = some ce → ce.vm = .none → s.vm.findClass E = some ce.cls → vx_W p l e R s m args below meth c H1 locs1 (cells + mc) (slots + ms) Q (F0 m pc ls rest) q9)
    (kk : ∀ (r : Int64) (u : S) (t : State) (H1 : Heap) (locs1 : List Loc), t.heap = H1 → s.vm.Alike t.vm → post r u → B u t → H.size ≤ H1.size → (∀ q : Nat, q < H.size → ¬ A1 q → H1[q]? = H[q]?) → va_S A0 H0 H1 locs1 → W p l e R s m args below meth c H1 locs1 (cells + mc) (slots + ms) Q (F0 m (pc + 3) ls (.long r :: rest))) : W p l e R s m args below meth c H locs cells slots Q (F0 m pc ls st0) := by
  intro T hT X
  rcases hr T hT X with ⟨v, st₀, t, T', L, h0, X', hL, e1, e2, ⟨⟨r, u, hv, hp, hb⟩, hF⟩, st⟩ | ⟨q, st₀, t, T', L, E, ce, h0, X', hL, e1, e2, ⟨u, hp, hb, hF⟩, hce, hcv, hcl, st⟩
  · cases hv
    obtain ⟨k1, k2, k3⟩ := vx_keep h0 e1 hS hA hf hL hF
    obtain ⟨t2, a1, b1⟩ := kk r u t T'.heap (locs ++ L) e1.symm (by rw [← e2]; exact X'.warmed.alike) hp hb k1 k2 k3 T' rfl X'
    exact ⟨t2, st t2 a1, b1⟩
  · obtain ⟨k1, k2, k3⟩ := vx_keep h0 e1 hS hAX hf hL hF
    obtain ⟨t2, a1, b1⟩ := kx E ce q u t T'.heap (locs ++ L) e1.symm (by rw [← e2]; exact X'.warmed.alike) hp hb k1 k2 k3 (by rw [e1]; exact hce) hcv hcl T' rfl X'
    exact ⟨t2, st.trans a1, b1⟩
theorem vx_callf {S SX : Type} {post : UInt32 → S → Prop} {px : SX → Prop} {B : S → State → Prop} {BX : String → SX → State → Prop} {AX : Nat → Prop} (hr : vx_Run p l e R s m args below meth c H locs cells slots mc ms (F0 m pc ls st0) rest (va_Qf post B A1 a) (vx_X px BX AX) free) (hS : va_S A0 H0 H locs) (hA : ∀ q, q < H.size → A1 q → A0 q) (hf : ∀ q, free q → A0 q) (hAX : ∀ q, q < H.size → AX q → A0 q)
    (kx : ∀ (E : String) (ce : Cell) (q9 : Addr) (u : SX) (t : State) (H1 : Heap) (locs1 : List Loc), t.heap = H1 → s.vm.Alike t.vm → px u → BX E u t → H.size ≤ H1.size → (∀ q : Nat, q < H.size → ¬ AX q → H1[q]? = H[q]?) → va_S A0 H0 H1 locs1 → H1[q9]? = some ce → ce.vm = .none → s.vm.findClass E = some ce.cls → vx_W p l e R s m args below meth c H1 locs1 (cells + mc) (slots + ms) Q (F0 m pc ls rest) q9)
    (kk : ∀ (r : UInt32) (u : S) (t : State) (H1 : Heap) (locs1 : List Loc), t.heap = H1 → s.vm.Alike t.vm → post r u → B u t → H.size ≤ H1.size → (∀ q : Nat, q < H.size → ¬ A1 q → H1[q]? = H[q]?) → va_S A0 H0 H1 locs1 → W p l e R s m args below meth c H1 locs1 (cells + mc) (slots + ms) Q (F0 m (pc + 3) ls (.float r :: rest))) : W p l e R s m args below meth c H locs cells slots Q (F0 m pc ls st0) := by
  intro T hT X
  rcases hr T hT X with ⟨v, st₀, t, T', L, h0, X', hL, e1, e2, ⟨⟨r, u, hv, hp, hb⟩, hF⟩, st⟩ | ⟨q, st₀, t, T', L, E, ce, h0, X', hL, e1, e2, ⟨u, hp, hb, hF⟩, hce, hcv, hcl, st⟩
  · cases hv
    obtain ⟨k1, k2, k3⟩ := vx_keep h0 e1 hS hA hf hL hF
    obtain ⟨t2, a1, b1⟩ := kk r u t T'.heap (locs ++ L) e1.symm (by rw [← e2]; exact X'.warmed.alike) hp hb k1 k2 k3 T' rfl X'
    exact ⟨t2, st t2 a1, b1⟩
  · obtain ⟨k1, k2, k3⟩ := vx_keep h0 e1 hS hAX hf hL hF
    obtain ⟨t2, a1, b1⟩ := kx E ce q u t T'.heap (locs ++ L) e1.symm (by rw [← e2]; exact X'.warmed.alike) hp hb k1 k2 k3 (by rw [e1]; exact hce) hcv hcl T' rfl X'
    exact ⟨t2, st.trans a1, b1⟩
theorem vx_calld {S SX : Type} {post : UInt64 → S → Prop} {px : SX → Prop} {B : S → State → Prop} {BX : String → SX → State → Prop} {AX : Nat → Prop} (hr : vx_Run p l e R s m args below meth c H locs cells slots mc ms (F0 m pc ls st0) rest (va_Qd post B A1 a) (vx_X px BX AX) free) (hS : va_S A0 H0 H locs) (hA : ∀ q, q < H.size → A1 q → A0 q) (hf : ∀ q, free q → A0 q) (hAX : ∀ q, q < H.size → AX q → A0 q)
    (kx : ∀ (E : String) (ce : Cell) (q9 : Addr) (u : SX) (t : State) (H1 : Heap) (locs1 : List Loc), t.heap = H1 → s.vm.Alike t.vm → px u → BX E u t → H.size ≤ H1.size → (∀ q : Nat, q < H.size → ¬ AX q → H1[q]? = H[q]?) → va_S A0 H0 H1 locs1 → H1[q9]? = some ce → ce.vm = .none → s.vm.findClass E = some ce.cls → vx_W p l e R s m args below meth c H1 locs1 (cells + mc) (slots + ms) Q (F0 m pc ls rest) q9)
    (kk : ∀ (r : UInt64) (u : S) (t : State) (H1 : Heap) (locs1 : List Loc), t.heap = H1 → s.vm.Alike t.vm → post r u → B u t → H.size ≤ H1.size → (∀ q : Nat, q < H.size → ¬ A1 q → H1[q]? = H[q]?) → va_S A0 H0 H1 locs1 → W p l e R s m args below meth c H1 locs1 (cells + mc) (slots + ms) Q (F0 m (pc + 3) ls (.double r :: rest))) : W p l e R s m args below meth c H locs cells slots Q (F0 m pc ls st0) := by
  intro T hT X
  rcases hr T hT X with ⟨v, st₀, t, T', L, h0, X', hL, e1, e2, ⟨⟨r, u, hv, hp, hb⟩, hF⟩, st⟩ | ⟨q, st₀, t, T', L, E, ce, h0, X', hL, e1, e2, ⟨u, hp, hb, hF⟩, hce, hcv, hcl, st⟩
  · cases hv
    obtain ⟨k1, k2, k3⟩ := vx_keep h0 e1 hS hA hf hL hF
    obtain ⟨t2, a1, b1⟩ := kk r u t T'.heap (locs ++ L) e1.symm (by rw [← e2]; exact X'.warmed.alike) hp hb k1 k2 k3 T' rfl X'
    exact ⟨t2, st t2 a1, b1⟩
  · obtain ⟨k1, k2, k3⟩ := vx_keep h0 e1 hS hAX hf hL hF
    obtain ⟨t2, a1, b1⟩ := kx E ce q u t T'.heap (locs ++ L) e1.symm (by rw [← e2]; exact X'.warmed.alike) hp hb k1 k2 k3 (by rw [e1]; exact hce) hcv hcl T' rfl X'
    exact ⟨t2, st.trans a1, b1⟩
theorem vx_callv {S SX : Type} {post : S → Prop} {px : SX → Prop} {B : S → State → Prop} {BX : String → SX → State → Prop} {AX : Nat → Prop} (hr : vx_Run p l e R s m args below meth c H locs cells slots mc ms (F0 m pc ls st0) rest (va_Qv post B A1 a) (vx_X px BX AX) free) (hS : va_S A0 H0 H locs) (hA : ∀ q, q < H.size → A1 q → A0 q) (hf : ∀ q, free q → A0 q) (hAX : ∀ q, q < H.size → AX q → A0 q)
    (kx : ∀ (E : String) (ce : Cell) (q9 : Addr) (u : SX) (t : State) (H1 : Heap) (locs1 : List Loc), t.heap = H1 → s.vm.Alike t.vm → px u → BX E u t → H.size ≤ H1.size → (∀ q : Nat, q < H.size → ¬ AX q → H1[q]? = H[q]?) → va_S A0 H0 H1 locs1 → H1[q9]? = some ce → ce.vm = .none → s.vm.findClass E = some ce.cls → vx_W p l e R s m args below meth c H1 locs1 (cells + mc) (slots + ms) Q (F0 m pc ls rest) q9)
    (kk : ∀ (u : S) (t : State) (H1 : Heap) (locs1 : List Loc), t.heap = H1 → s.vm.Alike t.vm → post u → B u t → H.size ≤ H1.size → (∀ q : Nat, q < H.size → ¬ A1 q → H1[q]? = H[q]?) → va_S A0 H0 H1 locs1 → W p l e R s m args below meth c H1 locs1 (cells + mc) (slots + ms) Q (F0 m (pc + 3) ls (rest))) : W p l e R s m args below meth c H locs cells slots Q (F0 m pc ls st0) := by
  intro T hT X
  rcases hr T hT X with ⟨v, st₀, t, T', L, h0, X', hL, e1, e2, ⟨⟨u, hv, hp, hb⟩, hF⟩, st⟩ | ⟨q, st₀, t, T', L, E, ce, h0, X', hL, e1, e2, ⟨u, hp, hb, hF⟩, hce, hcv, hcl, st⟩
  · cases hv
    obtain ⟨k1, k2, k3⟩ := vx_keep h0 e1 hS hA hf hL hF
    obtain ⟨t2, a1, b1⟩ := kk u t T'.heap (locs ++ L) e1.symm (by rw [← e2]; exact X'.warmed.alike) hp hb k1 k2 k3 T' rfl X'
    exact ⟨t2, st t2 a1, b1⟩
  · obtain ⟨k1, k2, k3⟩ := vx_keep h0 e1 hS hAX hf hL hF
    obtain ⟨t2, a1, b1⟩ := kx E ce q u t T'.heap (locs ++ L) e1.symm (by rw [← e2]; exact X'.warmed.alike) hp hb k1 k2 k3 (by rw [e1]; exact hce) hcv hcl T' rfl X'
    exact ⟨t2, st.trans a1, b1⟩
end Rows
section Ends
variable {p : Program} {l : Launch} {e : Env} {R : Room} {s : State} {m : MethodId} {args : Array Value} {below : List Frame} {meth : Method} {c : Code} {H : Heap} {locs : List Loc} {cells slots : Nat} {Q : State → Prop}
variable {mc ms : Nat} {free : Addr → Prop} {A0 A1 : Nat → Prop} {H0 : Heap} {a : Array Value} {ls : Array Slot} {st0 rest : List Value}
variable {Qc : Array Value → State → Outcome → State → Prop} {XC : String → State → State → Prop}
/-- what a body that may throw owes at its end -/
def vx_MQ (below : List Frame) (Qc : Array Value → State → Outcome → State → Prop) (XC : String → State → State → Prop) (a : Array Value) (s : State) (mc ms : Nat) (free : Addr → Prop) : State → Prop := fun t =>
  ∃ o, t.status = .running ∧ Ended t below o ∧ vx_Q Qc XC mc ms free a s o t
theorem vx_ret {g : JFrame} {mc ms : Nat} (k : W p l e R s m args below meth c H locs cells slots (MQ below Qc args s mc ms free) g) : W p l e R s m args below meth c H locs cells slots (vx_MQ below Qc XC args s mc ms free) g := by
  intro T hT X
  obtain ⟨t, a1, o, b1, b2, b3, b4⟩ := k T hT X
  exact ⟨t, a1, o, b1, b2, Or.inl ⟨b3, b4⟩⟩
/-- not caught here: it goes on to the caller -/
theorem vx_widen {g : JFrame} {q : Addr} {k n : Nat} (h1 : cells ≤ k) (h2 : slots ≤ n) (kk : vx_W p l e R s m args below meth c H locs k n Q g q) : vx_W p l e R s m args below meth c H locs cells slots Q g q := fun T hT X => kk T hT (stand_widen X h1 h2)
theorem vx_out {pc : Nat} {E : String} {ce : Cell} {q : Addr} {mc ms : Nat} (hout : ∀ x ∈ c.exceptionTable.toList, covers x pc = false) (hlocks : meth.locks = false) (hcell : H[q]? = some ce) (hv : ce.vm = .none) (hcl : s.vm.findClass E = some ce.cls)
    (hx : ∀ t : State, t.heap = H → s.vm.Alike t.vm → XC E s t) (hf : ∀ z ∈ locs, free z.base) (hc : cells ≤ mc) (hs : slots ≤ ms) :
    vx_W p l e R s m args below meth c H locs cells slots (vx_MQ below Qc XC args s mc ms free) (F0 m pc ls rest) q := by
  intro T hT X
  obtain ⟨st1, hrun, hend, hW, hsm⟩ := X.leaveThrown q (g := F0 m pc ls rest) rfl rfl rfl hout hlocks
  have hcell9 : (T.setFrames (.throwing q :: below)).heap[q]? = some ce := by
    show T.heap[q]? = some ce
    rw [hT]; exact hcell
  exact ⟨_, st1, .threw q, hrun, hend, Or.inr ⟨q, rfl, E, ce, locs, hx _ hT hW.alike, hcell9, hv, hcl, hW, hsm.mono hc hs, hf⟩⟩
theorem vx_frame {U : State} {k n : Nat} (h : s.sameButNew ({ U with vm := s.vm } : State) locs k n) : s.heap.size ≤ U.heap.size ∧ ∀ q : Nat, q < s.heap.size → (∀ z ∈ locs, z.base ≠ q) → U.heap[q]? = s.heap[q]? := by
  obtain ⟨-, h2, -, -, -, h6⟩ := h
  refine ⟨h2, fun q hq hz => ?_⟩
  obtain ⟨c9, e1, e2, e3, e4⟩ := h6 q _ (Array.getElem?_eq_getElem hq)
  have hs : c9.slots = (s.heap[q]).slots := Array.ext_getElem? fun i => e4 i fun hm => hz _ hm rfl
  have h9 : c9 = s.heap[q] := by
    rw [hs] at e2
    exact e2
  have e5 : U.heap[q]? = some c9 := e1
  rw [e5, h9, Array.getElem?_eq_getElem hq]
/-- the words of a throw but the four that speak of the heap -/
def vx_no (w : Cond) : Bool := decide (w ≠ .isRef (.static Bundle.tN "UNASSIGNED_STACK" Bundle.steD)) && decide (w ≠ .isRef (.static Bundle.tN "SUPPRESSED_SENTINEL" Bundle.listD)) && decide (w ≠ .laysStatic Bundle.tN "UNASSIGNED_STACK" Bundle.steD) && decide (w ≠ .laysStatic Bundle.tN "SUPPRESSED_SENTINEL" Bundle.listD)
def vx_at0 (own : String) (ic : Nat) (X : String) (names : List String) : List Cond := (Bundle.ownAtoms0 own ic X names).filter vx_no
def vx_atS (own : String) (ic : Nat) (X : String) (names : List String) : List Cond := (Bundle.ownAtoms own ic X names).filter vx_no
/-- a word that the tables alone decide, or a good one -/
def vx_ot (w : Cond) : Bool := w.onTables || goodWord w
theorem vx_ot_at {args a' : Array Value} {s U : State} {w : Cond} (hW : s.WarmedH U.vm) (hvm : s.vm = U.vm) (hg : vx_ot w = true) (h : w.before args s = true) : w.before a' U = true := by
  simp only [vx_ot, Bool.or_eq_true] at hg
  rcases hg with hg | hg
  · exact va_tabs hg hvm h
  · exact word_at hW (good_of_word hg) h
/-- a list's words: the good ones out of the method's own list, the others by premises of their own -/
theorem vx_hat {args : Array Value} {s : State} {L B : List Cond} (h1 : ∀ w ∈ L.filter goodWord, w.before args s = true) (h2 : ∀ w ∈ L.filter (fun w => !goodWord w), w ∈ B) (h3 : ∀ w ∈ B, w.before args s = true) : ∀ w ∈ L, w.before args s = true := by
  intro w hw
  by_cases g : goodWord w = true
  · exact h1 w (List.mem_filter.mpr ⟨hw, g⟩)
  · refine h3 w (h2 w (List.mem_filter.mpr ⟨hw, ?_⟩))
    show (!goodWord w) = true
    cases hgw : goodWord w
    · rfl
    · exact absurd hgw g
theorem vx_c {args : Array Value} {s : State} {w : Cond} {B : List Cond} (h : w.before args s = true) (t : ∀ w ∈ B, w.before args s = true) : ∀ w' ∈ w :: B, w'.before args s = true := fun w' h' => (List.mem_cons.mp h').elim (fun e => by rw [e]; exact h) (t w')
theorem vx_n {args : Array Value} {s : State} : ∀ w ∈ ([] : List Cond), w.before args s = true := fun _ h => nomatch h
theorem vx_own {args : Array Value} {s : State} {L : List Cond} (h1 : ∀ w ∈ L.filter vx_no, w.before args s = true)
    (hU : (Cond.isRef (.static Bundle.tN "UNASSIGNED_STACK" Bundle.steD)).before args s = true) (hN : (Cond.isRef (.static Bundle.tN "SUPPRESSED_SENTINEL" Bundle.listD)).before args s = true)
    (lU : (Cond.laysStatic Bundle.tN "UNASSIGNED_STACK" Bundle.steD).before args s = true) (lN : (Cond.laysStatic Bundle.tN "SUPPRESSED_SENTINEL" Bundle.listD).before args s = true) : ∀ w ∈ L, w.before args s = true := by
  intro w hw
  by_cases e1 : w = .isRef (.static Bundle.tN "UNASSIGNED_STACK" Bundle.steD)
  · rw [e1]; exact hU
  · by_cases e2 : w = .isRef (.static Bundle.tN "SUPPRESSED_SENTINEL" Bundle.listD)
    · rw [e2]; exact hN
    · by_cases e3 : w = .laysStatic Bundle.tN "UNASSIGNED_STACK" Bundle.steD
      · rw [e3]; exact lU
      · by_cases e4 : w = .laysStatic Bundle.tN "SUPPRESSED_SENTINEL" Bundle.listD
        · rw [e4]; exact lN
        · exact h1 w (List.mem_filter.mpr ⟨hw, by unfold vx_no; rw [decide_eq_true e1, decide_eq_true e2, decide_eq_true e3, decide_eq_true e4]; rfl⟩)
/-- where a static field lies, its class's statics cell in H -/
def vx_L (C n d : String) (A : Nat → Prop) (U : State) (H : Heap) : Prop := ∃ (c : ClassId) (k : Class) (i : Nat) (f : Field) (a : Nat) (cell : Cell), U.vm.findClass C = some c ∧ U.fieldFound? C n d = some (c, k, i, f) ∧ f.isStatic = true ∧ k.statics = some a ∧ H[a]? = some cell ∧ cell.vm.isStatics = true ∧ cell.cls = c ∧ f.slot < cell.slots.size ∧ k.staticTypes[f.slot]? = some f.type ∧ ¬ A a
theorem vx_L.moved {C n d : String} {A : Nat → Prop} {u U : State} {H : Heap} (hvm : u.vm.Alike U.vm) (h : vx_L C n d A u H) : vx_L C n d A U H := by
  obtain ⟨c, k, i, f, a, cell, h1, h2, h3, h4, h5, h6, h7, h8, h9, h10⟩ := h
  obtain ⟨k', hi', he⟩ := State.fieldFound?_setVm hvm h2
  exact ⟨c, k', i, f, a, cell, by rw [hvm.findClass]; exact h1, hi', h3, by rw [he]; exact h4, h5, h6, h7, h8, by rw [he]; exact h9, h10⟩
theorem vx_L.kept {C n d : String} {A : Nat → Prop} {U : State} {H H1 : Heap} (h : vx_L C n d A U H) (hq : ∀ a : Nat, a < H.size → ¬ A a → H1[a]? = H[a]?) : vx_L C n d A U H1 := by
  obtain ⟨c, k, i, f, a, cell, h1, h2, h3, h4, h5, h6, h7, h8, h9, h10⟩ := h
  exact ⟨c, k, i, f, a, cell, h1, h2, h3, h4, by rw [hq a (Array.getElem?_eq_some_iff.mp h5).1 h10]; exact h5, h6, h7, h8, h9, h10⟩
theorem vx_L.narrow {C n d : String} {A B : Nat → Prop} {U : State} {H : Heap} (h : vx_L C n d A U H) (hAB : ∀ q, B q → A q) : vx_L C n d B U H := by
  obtain ⟨c, k, i, f, a, cell, h1, h2, h3, h4, h5, h6, h7, h8, h9, h10⟩ := h
  exact ⟨c, k, i, f, a, cell, h1, h2, h3, h4, h5, h6, h7, h8, h9, fun z => h10 (hAB _ z)⟩
theorem vx_L.word {C n d : String} {A : Nat → Prop} {s : State} {args : Array Value} (h : vx_L C n d A s s.heap) : (Cond.laysStatic C n d).before args s = true := by
  obtain ⟨c, k, i, f, a, cell, h1, h2, h3, h4, h5, h6, h7, h8, h9, -⟩ := h
  show (Cond.laysStatic C n d).holds args s none s [] = true
  exact Cond.laysStatic_of h1 h2 h3 h4 h5 h6 h7 h8 h9
/-- .. and what it holds: null or some reference -/
def vx_Zq (C n d : String) (A : Nat → Prop) (U : State) (H : Heap) : Prop := va_Zq C n d A U H ∧ vx_L C n d A U H
theorem vx_Zq.moved {C n d : String} {A : Nat → Prop} {u U : State} {H : Heap} (hvm : u.vm.Alike U.vm) (h : vx_Zq C n d A u H) : vx_Zq C n d A U H := ⟨va_Zq.moved hvm h.1, vx_L.moved hvm h.2⟩
theorem vx_Zq.kept {C n d : String} {A : Nat → Prop} {U : State} {H H1 : Heap} (h : vx_Zq C n d A U H) (hq : ∀ a : Nat, a < H.size → ¬ A a → H1[a]? = H[a]?) : vx_Zq C n d A U H1 := ⟨va_Zq.kept h.1 hq, vx_L.kept h.2 hq⟩
theorem vx_Zq.narrow {C n d : String} {A B : Nat → Prop} {U : State} {H : Heap} (h : vx_Zq C n d A U H) (hAB : ∀ q, B q → A q) : vx_Zq C n d B U H := ⟨va_Zq.narrow h.1 hAB, vx_L.narrow h.2 hAB⟩
theorem vx_Zqof {args : Array Value} {s : State} {C n d : String} {A : Nat → Prop} (hl : (Cond.laysStatic C n d).before args s = true) (hini : (Cond.initialized C).before args s = true) (h : (Cond.isRef (.static C n d)).before args s = true) (hA : ∀ a : Nat, a < s.heap.size → ¬ A a) : vx_Zq C n d A s s.heap := by
  refine ⟨va_Zqof hl hini h hA, ?_⟩
  obtain ⟨c, k, i, f, a, cell, h1, h2, h3, h4, h5, h6, h7, h8, h9⟩ := Cond.laysStatic_spec hl
  exact ⟨c, k, i, f, a, cell, h1, h2, h3, h4, h5, h6, h7, h8, h9, hA a (Array.getElem?_eq_some_iff.mp h5).1⟩
theorem vx_isRef {C n d : String} {v : Value} {A : Nat → Prop} {s : State} {args : Array Value} (h : va_Z C n d v A s s.heap) (hv : v.isRef = true) : (Cond.isRef (.static C n d)).before args s = true := by
  obtain ⟨cf, kf, fi, f, a, cell, h1, h2, h3, h4, h5, h6, h7, -⟩ := h
  have he : (Term.static C n d).eval args s none [] s = some v := by
    simp [Term.eval, State.fieldNamed?, h1, h2, h4, h5, h6, h7]
  simp only [Cond.before, Cond.holds, Cond.value, he]
  cases v <;> simp_all [Value.isRef]
theorem vx_isRefq {C n d : String} {A : Nat → Prop} {s : State} {args : Array Value} (h : va_Zq C n d A s s.heap) : (Cond.isRef (.static C n d)).before args s = true := by
  rcases h with h | ⟨t, h⟩
  · exact vx_isRef h rfl
  · exact vx_isRef h rfl
/-- the same frame, seen from here: as if the method were called anew in this heap -/
theorem vx_rebase {T : State} (X : Stand p l e R s m args below meth c T locs cells slots) {R' : Room} (hf : R'.frames ≤ R.frames) (hl : R'.locals ≤ R.locals) (hc : cells + R'.cells ≤ R.cells) (hs : slots + R'.slots ≤ R.slots) :
    Stand p l e R' ((T.setVm s.vm).setFrames (.invoking m args :: below)) m args below meth c T [] 0 0 := by
  have htop : (T.setVm s.vm).topJava?.isSome := X.here.top
  have hF : ((T.setVm s.vm).setFrames (.invoking m args :: below)).frames = .invoking m args :: below := State.frames_setFrames _ (State.cur_lt_of_top htop)
  obtain ⟨g₀, hg0⟩ := Option.isSome_iff_exists.mp htop
  obtain ⟨r, hr⟩ := State.topJava?_eq_some.mp hg0
  have hl9 : e.platform.stackLimits (T.setVm s.vm).me = e.platform.stackLimits s.me := X.limits
  have hb9 : (T.setVm s.vm).me.stackBytes = s.me.stackBytes := X.bytes
  refine ⟨X.admits, X.cas, X.clock, hF, ?_, X.hears, X.method, X.code, X.here, X.tail, X.warmed, ?_, ?_, ?_⟩
  · have h := X.room
    have hU : ((T.setVm s.vm).setFrames (.invoking m args :: below)).localsInUse = s.localsInUse := by
      rw [State.localsInUse_invoking hF (meth := meth) (c := c) X.method X.code, State.localsInUse_invoking X.frames X.method X.code]
    simp only [State.hasRoom, Bool.and_eq_true, decide_eq_true_eq] at h ⊢
    obtain ⟨⟨⟨⟨h1, h2, h3, h4, h5, h6⟩, h7⟩, h8⟩, h9⟩ := h
    rw [X.frames, List.length_cons] at h2 h3
    have q1 := X.heapSize
    have q2 := X.used
    simp only [hF, hU, List.length_cons, State.stackLimits_setFrames, State.stackBytes_setFrames, hl9, hb9]
    refine ⟨⟨⟨⟨by omega, by omega, by omega, by omega, by omega, h6⟩, ?_⟩, ?_⟩, X.book⟩
    · show T.heap.size + R'.cells ≤ e.platform.maxCells
      omega
    · show T.slotsUsed + R'.slots ≤ e.platform.maxSlots
      omega
  · rw [State.stackLimits_setFrames]; rfl
  · rw [State.stackBytes_setFrames]; rfl
  · refine ⟨?_, Nat.le_refl _, Nat.le_refl _, ?_, ?_, fun a c9 h9 => ⟨c9, h9, rfl, rfl, fun _ _ => rfl⟩⟩
    · obtain ⟨t, ht, -⟩ := State.frames_cons hr
      show T.setVm s.vm = { ((T.setVm s.vm).setFrames (.invoking m args :: below)).setFrames (T.setVm s.vm).frames with heap := T.heap, slotsUsed := T.slotsUsed }
      rw [State.setFrames_setFrames, State.setFrames_self ht]
      rfl
    · show T.slotsUsed = T.slotsUsed + ((T.heap.toList.drop T.heap.size).map (·.slots.size)).sum
      rw [List.drop_eq_nil_of_le (Nat.le_of_eq Array.length_toList)]
      rfl
    · show ((T.heap.toList.drop T.heap.size).map (·.slots.size)).sum ≤ 0
      rw [List.drop_eq_nil_of_le (Nat.le_of_eq Array.length_toList)]
      exact Nat.le_refl _
/-- 'throw new E()': new; dup; invokespecial; athrow -/
theorem vx_throw0 {cc : ByteArray} {pc : Nat} (hexec : p.tables.exec = Jvm.exec) (hb : c.code = cc) (hl : l.stackTraces = false) {own cls : String} {names : List String} {ik ic mc ms : Nat} {A : Nat → Prop}
    (hown : s.vm.findClass own = some m.cls) (hcls : Bundle.fit cls = true) (hnames : ∀ n ∈ names, Bundle.fit n = true)
    (hk : (Cond.classLink own ik cls).before args s = true) (hini : (Cond.initialized cls).before args s = true) (hat : ∀ w ∈ vx_at0 own ic cls names, w.before args s = true)
    (hgood : ∀ w ∈ Cond.classLink own ik cls :: Cond.initialized cls :: vx_at0 own ic cls names, vx_ot w = true)
    (hU : vx_Zq Bundle.tN "UNASSIGNED_STACK" Bundle.steD A s s.heap) (hN : vx_Zq Bundle.tN "SUPPRESSED_SENTINEL" Bundle.listD A s s.heap) (hS : va_S A s.heap H locs) (hsize : ls.size = c.maxLocals)
    (d0 : decode cc pc = .ok (.new ik, 3)) (d3 : decode cc (pc + 3) = .ok (.dup, 1)) (d4 : decode cc (pc + 4) = .ok (.invokespecial ic, 3)) (d7 : decode cc (pc + 7) = .ok (.athrow, 1))
    (hout : ∀ x ∈ c.exceptionTable.toList, covers x (pc + 7) = false)
    (hRframes : names.length + 3 < R.frames) (hRlocals : (rest.map fun v => v.category).sum + (13 * (names.length + 1) + 42) ≤ R.locals) (hRcells : cells + 1 ≤ R.cells) (hRslots : slots + 6 ≤ R.slots) (hlocks : meth.locks = false)
    (hx : ∀ t : State, s.vm.Alike t.vm → H.size ≤ t.heap.size → (∀ q : Nat, q < H.size → t.heap[q]? = H[q]?) → XC cls s t)
    (hf : ∀ z ∈ locs, free z.base) (hc : cells + 1 ≤ mc) (hs : slots + 6 ≤ ms) :
    W p l e R s m args below meth c H locs cells slots (vx_MQ below Qc XC args s mc ms free) (F0 m pc ls rest) := by
  intro T hT X
  have htr : e.platform.stackTraces = false := (show e.platform.stackTraces = l.stackTraces by rw [X.admits.platform]).trans hl
  have Y := vx_rebase X (R' := { frames := R.frames, locals := R.locals, cells := 1, slots := 6 }) (Nat.le_refl _) (Nat.le_refl _) hRcells hRslots
  obtain ⟨s', hA⟩ : ∃ z, z = (T.setVm s.vm).setFrames (.invoking m args :: below) := ⟨_, rfl⟩
  rw [← hA] at Y
  have hvm : s'.vm = s.vm := by rw [hA]; rfl
  have hhp : s'.heap = H := by rw [hA]; exact hT
  have hW0 : s.WarmedH s'.vm := by rw [hvm]; exact State.WarmedH.refl s
  have hat' : ∀ w ∈ vx_at0 own ic cls names, w.before args s' = true := fun w hw => vx_ot_at hW0 hvm.symm (hgood w (List.mem_cons_of_mem _ (List.mem_cons_of_mem _ hw))) (hat w hw)
  have hk' : (Cond.classLink own ik cls).before args s' = true := vx_ot_at hW0 hvm.symm (hgood _ List.mem_cons_self) hk
  have hini' : (Cond.initialized cls).before args s' = true := vx_ot_at hW0 hvm.symm (hgood _ (List.mem_cons_of_mem _ List.mem_cons_self)) hini
  have hU' : vx_Zq Bundle.tN "UNASSIGNED_STACK" Bundle.steD A s' s'.heap := by rw [hhp]; exact vx_Zq.moved hW0.alike (hU.kept hS.2.1)
  have hN' : vx_Zq Bundle.tN "SUPPRESSED_SENTINEL" Bundle.listD A s' s'.heap := by rw [hhp]; exact vx_Zq.moved hW0.alike (hN.kept hS.2.1)
  have h : ∀ w ∈ Bundle.ownAtoms0 own ic cls names, w.before args s' = true := vx_own hat' (vx_isRefq hU'.1) (vx_isRefq hN'.1) hU'.2.word hN'.2.word
  have hown' : s'.vm.findClass own = some m.cls := by rw [hvm]; exact hown
  have hins : (Cond.instantiable cls 6).before args s' = true := h _ (by simp [Bundle.ownAtoms0])
  obtain ⟨vm₁, cX, kX, hfX, hkX, -, -, X₁, st1⟩ := Y.newCold hexec (own := own) (C := cls) (index := ik) (n := 6) hown' hk' hins hini'
    (g := F0 m pc ls rest) rfl (by rw [hb]; exact d0) (Nat.le_refl _) (Nat.le_refl _)
  generalize hT1 : (T.setVm vm₁).pushCell { cls := cX, slots := kX.instanceTypes.map defaultValue, vm := .none } = T1 at X₁ st1
  have hcat : (Value.ref T.heap.size).category = 1 := rfl
  have hcellA : T1.heap[T.heap.size]? = some (freshCell cX kX) := by rw [← hT1]; exact State.heap_pushCell_size _ _
  have d3' : decode c.code (pc + 3) = .ok (.dup, 1) := by rw [hb]; exact d3
  obtain ⟨U, hsteps, hrun, hend, hW, hsame, ce, hce, hO⟩ := X₁.ctorThrow0 hexec htr (own := own) (cls := cls) (names := names) (ic := ic) hown' hcls hnames h (fun x hx => nomatch hx) hfX hkX hcellA (by rw [hhp, hT]; exact Nat.le_refl _)
    (g := { method := m, pc := pc + 4, locals := ls, stack := .ref T.heap.size :: .ref T.heap.size :: rest, locked := none }) rfl hsize rfl rfl (rest := rest) rfl
    (by rw [hb]; exact d4) (by rw [hb]; exact d7) hout hRframes (by simp only [List.map_cons, List.sum_cons, hcat]; omega) hlocks
  obtain ⟨f1, f2⟩ := vx_frame hsame
  rw [hhp] at f1 f2
  have hWs : s.WarmedH U.vm := State.WarmedH.trans hW0 hW
  have hcl : s.vm.findClass cls = some ce.cls := by
    have h9 := hO.cls
    rw [hvm] at h9
    exact h9
  have hall : s.sameButNew ({ U with vm := s.vm } : State) locs mc ms := by
    subst hA
    obtain ⟨e1, e2⟩ := hsame
    rw [State.setFrames_setFrames] at e1
    have h2 : (T.setVm s.vm).sameButNew ({ U with vm := s.vm } : State) [] (0 + 1) (0 + 6) := ⟨e1, e2⟩
    have h3 := X.same.trans h2
    rw [List.append_nil] at h3
    exact h3.mono hc hs
  refine ⟨U, ?_, .threw T.heap.size, hrun, hend, Or.inr ⟨T.heap.size, rfl, cls, ce, locs, hx U hWs.alike f1 (fun q hq => f2 q hq (fun z hz => nomatch hz)), hce, hO.vm, hcl, hWs, hall, hf⟩⟩
  refine st1 _ ?_
  show Steps p.tables e below (T1.setTop { method := m, pc := pc + 3, locals := ls, stack := .ref T.heap.size :: rest, locked := none }) _
  jvm_step X₁.here [X₁.here.top, hexec, d3', Value.category]
  exact hsteps
/-- 'throw new E("text")': new; dup; ldc; invokespecial; athrow -/
theorem vx_throwS {cc : ByteArray} {pc : Nat} (hexec : p.tables.exec = Jvm.exec) (hb : c.code = cc) (hl : l.stackTraces = false) {own cls text : String} {names : List String} {ik is ic mc ms sa : Nat} {A : Nat → Prop}
    (hown : s.vm.findClass own = some m.cls) (hcls : Bundle.fit cls = true) (hnames : ∀ n ∈ names, Bundle.fit n = true)
    (hk : (Cond.classLink own ik cls).before args s = true) (hini : (Cond.initialized cls).before args s = true) (hstr : vk_R own is text sa s) (hat : ∀ w ∈ vx_atS own ic cls names, w.before args s = true)
    (hgood : ∀ w ∈ Cond.classLink own ik cls :: Cond.initialized cls :: vx_atS own ic cls names, vx_ot w = true)
    (hU : vx_Zq Bundle.tN "UNASSIGNED_STACK" Bundle.steD A s s.heap) (hN : vx_Zq Bundle.tN "SUPPRESSED_SENTINEL" Bundle.listD A s s.heap) (hS : va_S A s.heap H locs) (hsize : ls.size = c.maxLocals)
    (d0 : decode cc pc = .ok (.new ik, 3)) (d3 : decode cc (pc + 3) = .ok (.dup, 1)) (d4 : decode cc (pc + 4) = .ok (.ldc is, 2)) (d6 : decode cc (pc + 6) = .ok (.invokespecial ic, 3)) (d9 : decode cc (pc + 9) = .ok (.athrow, 1))
    (hout : ∀ x ∈ c.exceptionTable.toList, covers x (pc + 9) = false)
    (hRframes : names.length + 3 < R.frames) (hRlocals : (rest.map fun v => v.category).sum + (13 * (names.length + 1) + 43) ≤ R.locals) (hRcells : cells + 1 ≤ R.cells) (hRslots : slots + 6 ≤ R.slots) (hlocks : meth.locks = false)
    (hx : ∀ t : State, s.vm.Alike t.vm → H.size ≤ t.heap.size → (∀ q : Nat, q < H.size → t.heap[q]? = H[q]?) → XC cls s t)
    (hf : ∀ z ∈ locs, free z.base) (hc : cells + 1 ≤ mc) (hs : slots + 6 ≤ ms) :
    W p l e R s m args below meth c H locs cells slots (vx_MQ below Qc XC args s mc ms free) (F0 m pc ls rest) := by
  intro T hT X
  have htr : e.platform.stackTraces = false := (show e.platform.stackTraces = l.stackTraces by rw [X.admits.platform]).trans hl
  have Y := vx_rebase X (R' := { frames := R.frames, locals := R.locals, cells := 1, slots := 6 }) (Nat.le_refl _) (Nat.le_refl _) hRcells hRslots
  obtain ⟨s', hA⟩ : ∃ z, z = (T.setVm s.vm).setFrames (.invoking m args :: below) := ⟨_, rfl⟩
  rw [← hA] at Y
  have hvm : s'.vm = s.vm := by rw [hA]; rfl
  have hhp : s'.heap = H := by rw [hA]; exact hT
  have hW0 : s.WarmedH s'.vm := by rw [hvm]; exact State.WarmedH.refl s
  have hat' : ∀ w ∈ vx_atS own ic cls names, w.before args s' = true := fun w hw => vx_ot_at hW0 hvm.symm (hgood w (List.mem_cons_of_mem _ (List.mem_cons_of_mem _ hw))) (hat w hw)
  have hk' : (Cond.classLink own ik cls).before args s' = true := vx_ot_at hW0 hvm.symm (hgood _ List.mem_cons_self) hk
  have hini' : (Cond.initialized cls).before args s' = true := vx_ot_at hW0 hvm.symm (hgood _ (List.mem_cons_of_mem _ List.mem_cons_self)) hini
  have hU' : vx_Zq Bundle.tN "UNASSIGNED_STACK" Bundle.steD A s' s'.heap := by rw [hhp]; exact vx_Zq.moved hW0.alike (hU.kept hS.2.1)
  have hN' : vx_Zq Bundle.tN "SUPPRESSED_SENTINEL" Bundle.listD A s' s'.heap := by rw [hhp]; exact vx_Zq.moved hW0.alike (hN.kept hS.2.1)
  have h : ∀ w ∈ Bundle.ownAtoms own ic cls names, w.before args s' = true := vx_own hat' (vx_isRefq hU'.1) (vx_isRefq hN'.1) hU'.2.word hN'.2.word
  have hown' : s'.vm.findClass own = some m.cls := by rw [hvm]; exact hown
  have hins : (Cond.instantiable cls 6).before args s' = true := h _ (by simp [Bundle.ownAtoms])
  obtain ⟨vm₁, cX, kX, hfX, hkX, -, -, X₁, st1⟩ := Y.newCold hexec (own := own) (C := cls) (index := ik) (n := 6) hown' hk' hins hini'
    (g := F0 m pc ls rest) rfl (by rw [hb]; exact d0) (Nat.le_refl _) (Nat.le_refl _)
  generalize hT1 : (T.setVm vm₁).pushCell { cls := cX, slots := kX.instanceTypes.map defaultValue, vm := .none } = T1 at X₁ st1
  have hcat : (Value.ref T.heap.size).category = 1 := rfl
  have hcellA : T1.heap[T.heap.size]? = some (freshCell cX kX) := by rw [← hT1]; exact State.heap_pushCell_size _ _
  have d3' : decode c.code (pc + 3) = .ok (.dup, 1) := by rw [hb]; exact d3
  have d4' : decode c.code (pc + 4) = .ok (.ldc is, 2) := by rw [hb]; exact d4
  have hstr' : vk_R own is text sa s' := vk_R.warm hW0 hstr
  obtain ⟨U, hsteps, hrun, hend, hW, hsame, ce, hce, hO⟩ := X₁.ctorThrowS hexec htr (own := own) (cls := cls) (names := names) (ic := ic) hown' hcls hnames h (fun x hx => nomatch hx) hfX hkX hcellA (by rw [hhp, hT]; exact Nat.le_refl _) (msg := .ref sa) rfl
    (g := { method := m, pc := pc + 6, locals := ls, stack := .ref sa :: .ref T.heap.size :: .ref T.heap.size :: rest, locked := none }) rfl hsize rfl rfl (rest := rest) rfl
    (by rw [hb]; exact d6) (by rw [hb]; exact d9) hout hRframes (by simp only [List.map_cons, List.sum_cons, hcat]; omega) hlocks
  obtain ⟨f1, f2⟩ := vx_frame hsame
  rw [hhp] at f1 f2
  have hWs : s.WarmedH U.vm := State.WarmedH.trans hW0 hW
  have hcl : s.vm.findClass cls = some ce.cls := by
    have h9 := hO.cls
    rw [hvm] at h9
    exact h9
  have hall : s.sameButNew ({ U with vm := s.vm } : State) locs mc ms := by
    subst hA
    obtain ⟨e1, e2⟩ := hsame
    rw [State.setFrames_setFrames] at e1
    have h2 : (T.setVm s.vm).sameButNew ({ U with vm := s.vm } : State) [] (0 + 1) (0 + 6) := ⟨e1, e2⟩
    have h3 := X.same.trans h2
    rw [List.append_nil] at h3
    exact h3.mono hc hs
  refine ⟨U, ?_, .threw T.heap.size, hrun, hend, Or.inr ⟨T.heap.size, rfl, cls, ce, locs, hx U hWs.alike f1 (fun q hq => f2 q hq (fun z hz => nomatch hz)), hce, hO.vm, hcl, hWs, hall, hf⟩⟩
  refine st1 _ ?_
  show Steps p.tables e below (T1.setTop { method := m, pc := pc + 3, locals := ls, stack := .ref T.heap.size :: rest, locked := none }) _
  jvm_step X₁.here [X₁.here.top, hexec, d3', Value.category]
  exact X₁.ldcString hexec (own := own) (text := text) (index := is) (a := sa) hown' hstr'.1 hstr'.2
    (g := { method := m, pc := pc + 4, locals := ls, stack := .ref T.heap.size :: .ref T.heap.size :: rest, locked := none }) rfl d4' _ hsteps
/-- 'throw new E("text")', the text by a wide index -/
theorem vx_throwSW {cc : ByteArray} {pc : Nat} (hexec : p.tables.exec = Jvm.exec) (hb : c.code = cc) (hl : l.stackTraces = false) {own cls text : String} {names : List String} {ik is ic mc ms sa : Nat} {A : Nat → Prop}
    (hown : s.vm.findClass own = some m.cls) (hcls : Bundle.fit cls = true) (hnames : ∀ n ∈ names, Bundle.fit n = true)
    (hk : (Cond.classLink own ik cls).before args s = true) (hini : (Cond.initialized cls).before args s = true) (hstr : vk_R own is text sa s) (hat : ∀ w ∈ vx_atS own ic cls names, w.before args s = true)
    (hgood : ∀ w ∈ Cond.classLink own ik cls :: Cond.initialized cls :: vx_atS own ic cls names, vx_ot w = true)
    (hU : vx_Zq Bundle.tN "UNASSIGNED_STACK" Bundle.steD A s s.heap) (hN : vx_Zq Bundle.tN "SUPPRESSED_SENTINEL" Bundle.listD A s s.heap) (hS : va_S A s.heap H locs) (hsize : ls.size = c.maxLocals)
    (d0 : decode cc pc = .ok (.new ik, 3)) (d3 : decode cc (pc + 3) = .ok (.dup, 1)) (d4 : decode cc (pc + 4) = .ok (.ldc_w is, 3)) (d7 : decode cc (pc + 7) = .ok (.invokespecial ic, 3)) (d10 : decode cc (pc + 10) = .ok (.athrow, 1))
    (hout : ∀ x ∈ c.exceptionTable.toList, covers x (pc + 10) = false)
    (hRframes : names.length + 3 < R.frames) (hRlocals : (rest.map fun v => v.category).sum + (13 * (names.length + 1) + 43) ≤ R.locals) (hRcells : cells + 1 ≤ R.cells) (hRslots : slots + 6 ≤ R.slots) (hlocks : meth.locks = false)
    (hx : ∀ t : State, s.vm.Alike t.vm → H.size ≤ t.heap.size → (∀ q : Nat, q < H.size → t.heap[q]? = H[q]?) → XC cls s t)
    (hf : ∀ z ∈ locs, free z.base) (hc : cells + 1 ≤ mc) (hs : slots + 6 ≤ ms) :
    W p l e R s m args below meth c H locs cells slots (vx_MQ below Qc XC args s mc ms free) (F0 m pc ls rest) := by
  intro T hT X
  have htr : e.platform.stackTraces = false := (show e.platform.stackTraces = l.stackTraces by rw [X.admits.platform]).trans hl
  have Y := vx_rebase X (R' := { frames := R.frames, locals := R.locals, cells := 1, slots := 6 }) (Nat.le_refl _) (Nat.le_refl _) hRcells hRslots
  obtain ⟨s', hA⟩ : ∃ z, z = (T.setVm s.vm).setFrames (.invoking m args :: below) := ⟨_, rfl⟩
  rw [← hA] at Y
  have hvm : s'.vm = s.vm := by rw [hA]; rfl
  have hhp : s'.heap = H := by rw [hA]; exact hT
  have hW0 : s.WarmedH s'.vm := by rw [hvm]; exact State.WarmedH.refl s
  have hat' : ∀ w ∈ vx_atS own ic cls names, w.before args s' = true := fun w hw => vx_ot_at hW0 hvm.symm (hgood w (List.mem_cons_of_mem _ (List.mem_cons_of_mem _ hw))) (hat w hw)
  have hk' : (Cond.classLink own ik cls).before args s' = true := vx_ot_at hW0 hvm.symm (hgood _ List.mem_cons_self) hk
  have hini' : (Cond.initialized cls).before args s' = true := vx_ot_at hW0 hvm.symm (hgood _ (List.mem_cons_of_mem _ List.mem_cons_self)) hini
  have hU' : vx_Zq Bundle.tN "UNASSIGNED_STACK" Bundle.steD A s' s'.heap := by rw [hhp]; exact vx_Zq.moved hW0.alike (hU.kept hS.2.1)
  have hN' : vx_Zq Bundle.tN "SUPPRESSED_SENTINEL" Bundle.listD A s' s'.heap := by rw [hhp]; exact vx_Zq.moved hW0.alike (hN.kept hS.2.1)
  have h : ∀ w ∈ Bundle.ownAtoms own ic cls names, w.before args s' = true := vx_own hat' (vx_isRefq hU'.1) (vx_isRefq hN'.1) hU'.2.word hN'.2.word
  have hown' : s'.vm.findClass own = some m.cls := by rw [hvm]; exact hown
  have hins : (Cond.instantiable cls 6).before args s' = true := h _ (by simp [Bundle.ownAtoms])
  obtain ⟨vm₁, cX, kX, hfX, hkX, -, -, X₁, st1⟩ := Y.newCold hexec (own := own) (C := cls) (index := ik) (n := 6) hown' hk' hins hini'
    (g := F0 m pc ls rest) rfl (by rw [hb]; exact d0) (Nat.le_refl _) (Nat.le_refl _)
  generalize hT1 : (T.setVm vm₁).pushCell { cls := cX, slots := kX.instanceTypes.map defaultValue, vm := .none } = T1 at X₁ st1
  have hcat : (Value.ref T.heap.size).category = 1 := rfl
  have hcellA : T1.heap[T.heap.size]? = some (freshCell cX kX) := by rw [← hT1]; exact State.heap_pushCell_size _ _
  have d3' : decode c.code (pc + 3) = .ok (.dup, 1) := by rw [hb]; exact d3
  have d4' : decode c.code (pc + 4) = .ok (.ldc_w is, 3) := by rw [hb]; exact d4
  have hstr' : vk_R own is text sa s' := vk_R.warm hW0 hstr
  obtain ⟨U, hsteps, hrun, hend, hW, hsame, ce, hce, hO⟩ := X₁.ctorThrowS hexec htr (own := own) (cls := cls) (names := names) (ic := ic) hown' hcls hnames h (fun x hx => nomatch hx) hfX hkX hcellA (by rw [hhp, hT]; exact Nat.le_refl _) (msg := .ref sa) rfl
    (g := { method := m, pc := pc + 7, locals := ls, stack := .ref sa :: .ref T.heap.size :: .ref T.heap.size :: rest, locked := none }) rfl hsize rfl rfl (rest := rest) rfl
    (by rw [hb]; exact d7) (by rw [hb]; exact d10) hout hRframes (by simp only [List.map_cons, List.sum_cons, hcat]; omega) hlocks
  obtain ⟨f1, f2⟩ := vx_frame hsame
  rw [hhp] at f1 f2
  have hWs : s.WarmedH U.vm := State.WarmedH.trans hW0 hW
  have hcl : s.vm.findClass cls = some ce.cls := by
    have h9 := hO.cls
    rw [hvm] at h9
    exact h9
  have hall : s.sameButNew ({ U with vm := s.vm } : State) locs mc ms := by
    subst hA
    obtain ⟨e1, e2⟩ := hsame
    rw [State.setFrames_setFrames] at e1
    have h2 : (T.setVm s.vm).sameButNew ({ U with vm := s.vm } : State) [] (0 + 1) (0 + 6) := ⟨e1, e2⟩
    have h3 := X.same.trans h2
    rw [List.append_nil] at h3
    exact h3.mono hc hs
  refine ⟨U, ?_, .threw T.heap.size, hrun, hend, Or.inr ⟨T.heap.size, rfl, cls, ce, locs, hx U hWs.alike f1 (fun q hq => f2 q hq (fun z hz => nomatch hz)), hce, hO.vm, hcl, hWs, hall, hf⟩⟩
  refine st1 _ ?_
  show Steps p.tables e below (T1.setTop { method := m, pc := pc + 3, locals := ls, stack := .ref T.heap.size :: rest, locked := none }) _
  jvm_step X₁.here [X₁.here.top, hexec, d3', Value.category]
  exact X₁.ldcStringW hexec (own := own) (text := text) (index := is) (a := sa) hown' hstr'.1 hstr'.2
    (g := { method := m, pc := pc + 4, locals := ls, stack := .ref T.heap.size :: .ref T.heap.size :: rest, locked := none }) rfl d4' _ hsteps
end Ends
section Bodies
variable {l : Launch}
theorem vx_ofW {y : MethodName} {ws ws' : List Cond} {rm : Room} {Pc : Array Value → State → Prop} {Qc : Array Value → State → Outcome → State → Prop} {XC : String → State → State → Prop} {mc ms : Nat} {free : Addr → Prop} {cc : ByteArray} {maxL : Nat} {ret : Option FieldType}
    (hy : plainName y.cls = true) (hw : ws = Cond.code y cc maxL ret :: ws')
    (body : ∀ p e s m args below meth c s₁, BodyLoose p l y (headSpec ws rm) cc maxL ret e s m args below meth c s₁ → c.maxLocals = maxL → (∀ x ∈ c.exceptionTable.toList, False) → Pc args s →
      W p l e (headSpec ws rm).room s m args below meth c s.heap [] 0 0 (vx_MQ below Qc XC args s mc ms free) (entryFrame m args maxL)) : vx_Met l y ws rm Pc Qc XC mc ms free := by
  refine MetFree.of_bodyS (code := cc) (maxLocals := maxL) (ret := ret) hy ?_ ?_
  · intro args s m h hn
    obtain ⟨meth, c, h1, h2, h3, h4, h5, h6, -, -⟩ := Cond.code_spec hn (atoms_spec (ws := ws) h _ (by rw [hw]; exact List.mem_cons_self))
    exact ⟨meth, c, h1, h2, h3, h4, h5, h6⟩
  · intro p e s m args below meth c s₁ B hml hP _
    have hh0 : s₁.heap = s.heap := by rw [B.state]; rfl
    have ht : ∀ x ∈ c.exceptionTable.toList, False := by
      obtain ⟨meth9, c9, h1, h2, -, -, -, -, h7, -⟩ := Cond.code_spec B.named (atoms_spec (ws := ws) B.pre _ (by rw [hw]; exact List.mem_cons_self))
      cases Option.some.inj (h1.symm.trans B.method)
      cases Option.some.inj (h2.symm.trans (Stand.of_body B).code)
      intro x hx
      rw [Array.isEmpty_iff.mp h7] at hx
      cases hx
    obtain ⟨t, a1, o, b1, b2, b3⟩ := body p e s m args below meth c s₁ B hml ht hP s₁ hh0 (Stand.of_body B)
    exact ⟨t, o, a1, b1, b2, b3⟩
/-- the table of a body with handlers -/
theorem vx_table {p : Program} {x y : MethodName} {S : Spec} {cc bytes : ByteArray} {maxL maxL' : Nat} {ret ret' : Option FieldType} {e : Env} {s s₁ : State} {m : MethodId} {args : Array Value} {below : List Frame} {meth : Method} {c : Code} {hh : List (Nat × Nat × Nat × Nat)}
    (B : BodyLoose p l y S cc maxL ret e s m args below meth c s₁) (h : (Cond.codeWith y bytes maxL' ret' hh).before args s = true) : c.exceptionTable.toList = tableOf hh := by
  obtain ⟨m9, meth9, c9, hn9, h1, h2, -, -, h6, -⟩ := Cond.codeWith_spec h
  cases Option.some.inj (hn9.symm.trans B.named)
  cases Option.some.inj (h1.symm.trans B.method)
  cases Option.some.inj (h2.symm.trans (Stand.of_body B).code)
  rw [← h6, table_eq]
end Bodies
end VXA
/-! ===== END ===== -/
/-! ===== BEGIN a static call of a method with an exception table ===== -/
section VXS
variable {p : Program} {l : Launch} {e : Env} {R : Room} {s : State} {m : MethodId} {args : Array Value} {below : List Frame} {meth : Method} {c : Code} {T : State} {H : Heap} {locs : List Loc} {cells slots : Nat}
abbrev vx_CSW (R : Room) (s : State) (args : Array Value) (own : String) (index : Nat) (y : MethodName) (bytes : ByteArray) (maxL : Nat) (ret : Option FieldType) (hh : List (Nat × Nat × Nat × Nat)) (ws : List Cond) (rm : Room) (mc ms n : Nat) : Prop :=
  (rm.cells = mc ∧ rm.slots = ms ∧ rm.frames + 1 ≤ R.frames ∧ 8 + (maxL + 11) + rm.locals ≤ R.locals ∧ (∀ w ∈ ws, ∀ (a' : Array Value) (U : State), s.WarmedH U.vm → w.before a' U = true) ∧ Cond.codeWith y bytes maxL ret hh ∈ ws) ∧
  (Cond.codeWith y bytes maxL ret hh).before args s = true ∧ (Cond.initialized y.cls).before args s = true ∧ (y.cls ≠ "java/lang/invoke/MethodHandle" ∧ y.cls ≠ "java/lang/invoke/VarHandle") ∧
  (∀ sig, parseMethodDescriptor y.desc = some sig → n = sig.parameters.length) ∧ (Cond.methodLink own index y).before args s = true ∧ (Cond.static y).before args s = true
theorem vx_cwSW {own : String} {index maxL mc ms : Nat} {y : MethodName} {bytes : ByteArray} {ret : Option FieldType} {hh : List (Nat × Nat × Nat × Nat)} {Ts ws ws' : List Cond} {rm : Room} (n : Nat) (ht : ∀ w ∈ Ts, w.before args s = true) (hT : GoodIn Ts (va_wsS own index y ws)) (hw : ws = Cond.codeWith y bytes maxL ret hh :: ws') (hrc : rm.cells = mc) (hrs : rm.slots = ms)
    (hd : y.cls ≠ "java/lang/invoke/MethodHandle" ∧ y.cls ≠ "java/lang/invoke/VarHandle" ∧ (parseMethodDescriptor y.desc).map (fun d => d.parameters.length) = some n) (hR : rm.frames + 1 ≤ R.frames ∧ 8 + (maxL + 11) + rm.locals ≤ R.locals) :
    vx_CSW R s args own index y bytes maxL ret hh ws rm mc ms n := by
  have ok : ∀ w ∈ va_wsS own index y ws, w.before args s = true := fun w h => ht w (hT w h).1
  have hG : GoodIn Ts ws := fun w h => hT w (by unfold va_wsS; exact List.mem_append_right _ h)
  have hc : Cond.codeWith y bytes maxL ret hh ∈ ws := by rw [hw]; exact List.mem_cons_self
  refine ⟨⟨hrc, hrs, hR.1, hR.2, pay_in ht hG, hc⟩, ht _ (hG _ hc).1, ok _ (by simp [va_wsS]), ⟨hd.1, hd.2.1⟩, fun sig h => ?_, ok _ (by simp [va_wsS]), ok _ (by simp [va_wsS])⟩
  have h2 := hd.2.2
  rw [h] at h2
  exact (Option.some.inj h2).symm
theorem vx_callSW (X : Stand p l e R s m args below meth c T locs cells slots) (hexec : p.tables.exec = Jvm.exec) {own : String} {index : Nat} {y : MethodName} {bytes : ByteArray} {maxL : Nat} {ret : Option FieldType} {hh : List (Nat × Nat × Nat × Nat)}
    (hown : s.vm.findClass own = some m.cls) (hlink : (Cond.methodLink own index y).before args s = true) (hstat : (Cond.static y).before args s = true) (hinit : (Cond.initialized y.cls).before args s = true)
    (hcode : (Cond.codeWith y bytes maxL ret hh).before args s = true) (hy : y.cls ≠ "java/lang/invoke/MethodHandle" ∧ y.cls ≠ "java/lang/invoke/VarHandle")
    {W9 : Nat} {Pre : Pt → Array Value → Prop} {Post : Pt → Array Value → Option Value → Pt → Prop} (hK : Back l R p e below s args y 3 W9 Pre Post)
    {g : JFrame} (hg : g.method = m) (hsize : g.locals.size = c.maxLocals) {argsL rest : List Value} (hlen : ∀ sig, parseMethodDescriptor y.desc = some sig → argsL.length = sig.parameters.length)
    (hstack : g.stack = argsL.reverse ++ rest) (hW : 2 * g.monitorRoom + (rest.map fun v => v.category).sum ≤ W9) (hdg : decode c.code g.pc = .ok (.invokestatic index, 3))
    (hpre : ∀ vm₁, s.WarmedH vm₁ → Pre ⟨T.setVm vm₁, locs, cells, slots⟩ argsL.toArray) :
    ∃ (v : Option Value) (vm₁ : Vm) (B : Pt), s.WarmedH vm₁ ∧ Stand p l e R s m args below meth c B.U B.locs B.cells B.slots ∧ Post ⟨T.setVm vm₁, locs, cells, slots⟩ argsL.toArray v B ∧
      ∀ target, Steps p.tables e below (B.U.setTop { g with pc := g.pc + 3, stack := v.toList ++ rest }) target → Steps p.tables e below (T.setTop g) target := by
  obtain ⟨mk, methM, cM, hnamed, hmethM, -, -, -, -, -, -, hsigM⟩ := Cond.codeWith_spec hcode
  have hstatic : methM.isStatic = true := Cond.static_spec hnamed hmethM hstat
  obtain ⟨kP, hkP, -⟩ := className_of_methodNamed hnamed
  have hinitP : kP.init = .initialized := Cond.initialized_spec (findClass_of_methodNamed hnamed) hkP hinit
  obtain ⟨vm₁, X₁, hstep₁⟩ := X.invokestatic hexec hown hlink hnamed hmethM hstatic hkP hinitP hy (g := g) hg (argsL := argsL) (rest := rest) (hlen _ hsigM) hstack hdg
  obtain ⟨v, B, X', hpost, hsteps⟩ := hK m meth c ⟨T.setVm vm₁, locs, cells, slots⟩ { g with stack := rest } (.invokestatic index) mk argsL.toArray X₁ hg hsize hdg hW (X₁.named hnamed) (hpre vm₁ X₁.warmed)
  exact ⟨v, vm₁, B, X₁.warmed, X', hpost, fun target h => hstep₁ _ fun acts => by rw [doInvoke_state]; exact hsteps.trans h⟩
theorem vx_runSW {y : MethodName} {bytes cc : ByteArray} {maxL nL mc ms n index : Nat} {ret : Option FieldType} {hh : List (Nat × Nat × Nat × Nat)} {ws : List Cond} {rm : Room} {Pc : Array Value → State → Prop} {Qc : Array Value → State → Outcome → State → Prop} {free : Addr → Prop} {Ts : List Cond} {own : String} {As rest : List Value} {g : JFrame}
    (S : CallFix p m c cc nL s args Ts own) (hM : Met l y ws rm Pc Qc mc ms free) (cw : vx_CSW R s args own index y bytes maxL ret hh ws rm mc ms n) (hp : PreS s H Pc As)
    (hg : g.method = m) (hn : As.length = n) (hsize : g.locals.size = nL) (hstack : g.stack = As.reverse ++ rest) (hW : 2 * g.monitorRoom + (rest.map fun v => v.category).sum ≤ 8) (hdg : decode cc g.pc = .ok (.invokestatic index, 3)) (hf : cells + mc ≤ R.cells ∧ slots + ms ≤ R.slots) :
    va_Run p l e R s m args below meth c H locs cells slots mc ms g rest (Qc As.toArray) (free) := by
  obtain ⟨⟨hrc, hrs, hfr, hlo, hws, hcw⟩, hcode, hini, hy, hlen, hl, hstt⟩ := cw
  have hK : Back l R p e below s args y 3 8 (PreOf R mc ms Pc) (PostOf Qc mc ms free) := va_backW (hh := hh) (bytes := bytes) (maxL := maxL) (ret := ret) hM hp.1 hrc hrs hfr hlo hws hcw (fun a' U hW => word_at hW (Or.inl (by first | rfl | simp [Cond.onTables, Cond.keeps, Cond.steady])) hini)
  obtain ⟨hx, hb, hml, ho, -⟩ := S
  intro T hT X
  obtain ⟨v, vm₁, ⟨U', l2, c2, s2⟩, hW₁, X', ⟨g', mk, t, L, e1, e2, hq, h1, hL, h2, h3⟩, st⟩ := vx_callSW X hx (hh := hh) (bytes := bytes) (maxL := maxL) (ret := ret) ho hl hstt hini hcode hy hK hg (hsize.trans hml.symm) (argsL := As) (rest := rest) (fun sig h => hn.trans (hlen sig h)) hstack hW (by rw [hb]; exact hdg)
    (fun vm₁ hW₁ => ⟨hf.1, hf.2, hp.2 (T.setVm vm₁) hT hW₁⟩)
  dsimp only [Pt.U, Pt.locs, Pt.cells, Pt.slots] at X' e1 e2 h1 h2 h3 st
  subst h1; subst h2; subst h3
  exact ⟨v, (T.setVm vm₁).calling g' mk As.toArray, t, U', L, hT, X', hL, e1, e2, hq, st⟩
/-- a thing of a world lies in the heap -/
theorem vx_lt {D : va_G} {cl : List vw_C} {ws : va_W} {H1 : Heap} (h : va_P D cl ws H1) {k : Nat} {q : Nat × va_E} (hk : ws[k]? = some q) : q.1 < H1.size := (h k q hk).lt
end VXS
/-! ===== END ===== -/
/-! ===== BEGIN methods with a table of their own: called by a name, returning or throwing ===== -/
section VXH
/-! vx_backW, vx_callVX, vx_callSX, vx_callVW, vx_runVW, vx_runVX, vx_runSX, vx_ofWH follow the same proofs as their sisters above (Free/Laws.lean, Shelf42/LK1.lean); vx_outP calls Shelf42/NT130.lean (outThrough). -/
section
variable {l : Launch} {R : Room} {p : Program} {e : Env} {below : List Frame} {s : State} {sargs : Array Value} {y : MethodName} {len W9 : Nat}
theorem vx_backW {ws : List Cond} {rm : Room} {Pc : Array Value → State → Prop} {Qc : Array Value → State → Outcome → State → Prop} {XC : String → State → State → Prop} {mc ms : Nat} {free : Addr → Prop} {bytes : ByteArray} {maxL : Nat} {ret : Option FieldType} {hh : List (Nat × Nat × Nat × Nat)}
    (hM : vx_Met l y ws rm Pc Qc XC mc ms free) (hblind : FrameBlind Pc) (hrc : rm.cells = mc) (hrs : rm.slots = ms)
    (hframes : rm.frames + 1 ≤ R.frames) (hlocals : W9 + (maxL + 11) + rm.locals ≤ R.locals)
    (hws : ∀ w ∈ ws, ∀ a' U, s.WarmedH U.vm → w.before a' U = true) (hcode : Cond.codeWith y bytes maxL ret hh ∈ ws) (hinit : ∀ a' U, s.WarmedH U.vm → (Cond.initialized y.cls).before a' U = true) :
    vx_Back l R p e below s sargs y len W9 (PreOf R mc ms Pc) (PostOf Qc mc ms free) (vx_Post XC mc ms free) := by
  intro m meth c A g ig mk a X hg hsize hdg hW hn hp
  have h1 : (headSpec ws rm).pre.before a A.U = true := atoms_intro fun w hw => hws w hw _ _ X.warmed
  have h2 : (Cond.codeWith y bytes maxL ret hh).before a A.U = true := hws _ hcode _ _ X.warmed
  have h3 : (Cond.initialized y.cls).before a A.U = true := hinit _ _ X.warmed
  have h4 : A.cells + (headSpec ws rm).room.cells ≤ R.cells := by rw [show (headSpec ws rm).room.cells = mc from hrc]; exact hp.1
  have h5 : A.slots + (headSpec ws rm).room.slots ≤ R.slots := by rw [show (headSpec ws rm).room.slots = ms from hrs]; exact hp.2.1
  have hPc : Pc a (A.U.calling g mk a) := hblind _ _ _ _ hp.2.2
  obtain ⟨U, Ls, c0, s0⟩ := A
  dsimp only [Pt.U, Pt.locs, Pt.cells, Pt.slots] at h1 h2 h3 h4 h5 X hn hPc ⊢
  obtain ⟨m9, methY, cY, hn9, hmY, hcY, -, hlY, -⟩ := Cond.codeWith_spec h2
  cases Option.some.inj (hn9.symm.trans hn)
  obtain ⟨kY, hkY, -⟩ := className_of_methodNamed hn
  have hinitY : kY.init = .initialized := Cond.initialized_spec (findClass_of_methodNamed hn) hkY h3
  have h : At U g.method c below := by rw [hg]; exact X.here
  have hlocals9 : W9 + (maxL + 11) + (headSpec ws rm).room.locals ≤ R.locals := hlocals
  have happ : (headSpec ws rm).appliesLoose y e.platform (U.calling g mk a) = true :=
    Spec.appliesLoose_calling (g := g) h hdg hn hkY hinitY
      (X.room_calling (g := g) (R' := (headSpec ws rm).room) hsize hmY hcY hframes (by rw [hlY]; omega) h4 h5) h1
  obtain ⟨mid, hmid⟩ := h.above
  have hfr : (U.setTop g).frames = (.java g :: mid) ++ below := by rw [State.frames_setTop' g h.top, hmid]; rfl
  obtain ⟨o, s₂, hsteps, -, hend, hq⟩ := Steps.callFree hM p X.admits X.cas X.clock (acts := []) hfr happ hPc trivial
  have hq' : vx_Q Qc XC mc ms free a (U.calling g mk a) o s₂ := hq
  rw [State.frames_setTop' g h.top] at hend
  obtain ⟨g₀, hg0⟩ := Option.isSome_iff_exists.mp h.top
  obtain ⟨r, hr⟩ := State.topJava?_eq_some.mp hg0
  have hr' : (({ U with heap := s₂.heap, slotsUsed := s₂.slotsUsed } : State).setVm s₂.vm).frames = .java g₀ :: r := hr
  rcases hq' with ⟨hqc, L, hfe, hL⟩ | ⟨q, rfl, E, ce, L, hx, hce, hcv, hcl, hW₂, hsm, hL⟩
  · obtain ⟨⟨v, rfl⟩, hW₂, e2, q2, q3, q4, q5, q6⟩ := id hfe
    have e3 : s₂ = ({ (U.calling g mk a).setFrames s₂.frames with heap := s₂.heap, slotsUsed := s₂.slotsUsed } : State).setVm s₂.vm := by
      have : s₂ = ({ s₂ with vm := (U.calling g mk a).vm } : State).setVm s₂.vm := rfl
      rw [e2] at this
      exact this
    obtain ⟨c₂, i₂, len₂, hc₂, hd₂, hf₂⟩ := hend
    have hW' : U.WarmedH s₂.vm := hW₂
    have hcc : c₂ = c := by
      have h1 : s₂.code? g.method = U.code? g.method := by
        rw [State.code?_eq, State.code?_eq, hW'.alike.method?]
      exact Option.some.inj (hc₂.symm.trans (h1.trans h.code))
    subst hcc
    have hlen : len₂ = len := by rw [hdg] at hd₂; cases hd₂; rfl
    subst hlen
    have hs₂ : s₂ = (({ U with heap := s₂.heap, slotsUsed := s₂.slotsUsed } : State).setVm s₂.vm).setTop { g with pc := g.pc + len₂, stack := v.toList ++ g.stack } := by
      refine e3.trans ?_
      rw [hf₂, State.calling_eq h.top, State.setFrames_setFrames, State.setTop_of_frames _ hr', hr]
      rfl
    have hsame : U.sameButNew ({ U with heap := s₂.heap, slotsUsed := s₂.slotsUsed } : State) L mc ms := by
      refine ⟨?_, q2, q3, q4, q5, q6⟩
      obtain ⟨t, ht, -⟩ := State.frames_cons hr
      show ({ U with heap := s₂.heap, slotsUsed := s₂.slotsUsed } : State) = { U.setFrames U.frames with heap := s₂.heap, slotsUsed := s₂.slotsUsed }
      rw [State.setFrames_self ht]
    subst hg
    refine Or.inl ⟨v, ⟨(({ U with heap := s₂.heap, slotsUsed := s₂.slotsUsed } : State).setVm s₂.vm), Ls ++ L, c0 + mc, s0 + ms⟩,
      ⟨X.admits, X.cas, X.clock, X.frames, X.room, X.hears, X.method, X.code, (X.here.setHeapUsed s₂.heap s₂.slotsUsed).setVm hW'.alike, X.tail, State.WarmedH.trans X.warmed hW', X.limits, X.bytes, X.same.trans (hsame.setVm s.vm)⟩,
      ⟨g, mk, s₂, L, rfl, rfl, hqc, rfl, hL, rfl, rfl⟩, ?_⟩
    show Steps p.tables e below _ ((({ U with heap := s₂.heap, slotsUsed := s₂.slotsUsed } : State).setVm s₂.vm).setTop { g with pc := g.pc + len₂, stack := v.toList ++ g.stack })
    rw [← hs₂]
    exact hsteps
  · obtain ⟨e2, q2, q3, q4, q5, q6⟩ := id hsm
    have e3 : s₂ = ({ (U.calling g mk a).setFrames s₂.frames with heap := s₂.heap, slotsUsed := s₂.slotsUsed } : State).setVm s₂.vm := by
      have : s₂ = ({ s₂ with vm := (U.calling g mk a).vm } : State).setVm s₂.vm := rfl
      rw [e2] at this
      exact this
    have hf₂ : s₂.frames = .throwing q :: .java g :: U.frames.tail := hend
    have hW' : U.WarmedH s₂.vm := hW₂
    have hs₂ : s₂ = ((({ U with heap := s₂.heap, slotsUsed := s₂.slotsUsed } : State).setVm s₂.vm).setTop g).pushFrame (.throwing q) := by
      refine e3.trans ?_
      rw [hf₂, State.calling_eq h.top, State.setFrames_setFrames, State.pushFrame, State.frames_setTop _ hr', State.setTop_of_frames _ hr', State.setFrames_setFrames, hr]
      rfl
    have hsame : U.sameButNew ({ U with heap := s₂.heap, slotsUsed := s₂.slotsUsed } : State) L mc ms := by
      refine ⟨?_, q2, q3, q4, q5, q6⟩
      obtain ⟨t, ht, -⟩ := State.frames_cons hr
      show ({ U with heap := s₂.heap, slotsUsed := s₂.slotsUsed } : State) = { U.setFrames U.frames with heap := s₂.heap, slotsUsed := s₂.slotsUsed }
      rw [State.setFrames_self ht]
    subst hg
    refine Or.inr ⟨q, ⟨(({ U with heap := s₂.heap, slotsUsed := s₂.slotsUsed } : State).setVm s₂.vm), Ls ++ L, c0 + mc, s0 + ms⟩,
      ⟨X.admits, X.cas, X.clock, X.frames, X.room, X.hears, X.method, X.code, (X.here.setHeapUsed s₂.heap s₂.slotsUsed).setVm hW'.alike, X.tail, State.WarmedH.trans X.warmed hW', X.limits, X.bytes, X.same.trans (hsame.setVm s.vm)⟩,
      ⟨g, mk, s₂, L, E, ce, rfl, rfl, hx, hce, hcv, hcl, rfl, hL, rfl, rfl⟩, ?_⟩
    show Steps p.tables e below _ (((({ U with heap := s₂.heap, slotsUsed := s₂.slotsUsed } : State).setVm s₂.vm).setTop g).pushFrame (.throwing q))
    rw [← hs₂]
    exact hsteps
end
variable {p : Program} {l : Launch} {e : Env} {R : Room} {s : State} {m : MethodId} {args : Array Value} {below : List Frame} {meth : Method} {c : Code} {T : State} {H : Heap} {locs : List Loc} {cells slots : Nat}
theorem vx_callVX (X : Stand p l e R s m args below meth c T locs cells slots) (hexec : p.tables.exec = Jvm.exec) {own C : String} {index : Nat} {y : MethodName} {bytes : ByteArray} {maxL : Nat} {ret : Option FieldType} {hh : List (Nat × Nat × Nat × Nat)}
    (hown : s.vm.findClass own = some m.cls) (hlink : (Cond.methodLink own index y).before args s = true) (hinst : (Cond.instanceMethod y).before args s = true) (hsel : (Cond.selects C y y).before args s = true)
    (hcode : (Cond.codeWith y bytes maxL ret hh).before args s = true) (hy : y.cls ≠ "java/lang/invoke/MethodHandle" ∧ y.cls ≠ "java/lang/invoke/VarHandle")
    {W9 : Nat} {Pre : Pt → Array Value → Prop} {Post : Pt → Array Value → Option Value → Pt → Prop} {PostX : Pt → Array Value → Addr → Pt → Prop} (hK : vx_Back l R p e below s args y 3 W9 Pre Post PostX)
    {b : Addr} {cellB : Cell} (hcell : T.heap[b]? = some cellB) (hobj : cellB.vm.isStatics = false) (hcls : s.vm.findClass C = some cellB.cls)
    {g : JFrame} (hg : g.method = m) (hsize : g.locals.size = c.maxLocals) {argsL rest : List Value} (hlen : ∀ sig, parseMethodDescriptor y.desc = some sig → argsL.length = sig.parameters.length)
    (hstack : g.stack = argsL.reverse ++ .ref b :: rest) (hW : 2 * g.monitorRoom + (rest.map fun v => v.category).sum ≤ W9) (hdg : decode c.code g.pc = .ok (.invokevirtual index, 3))
    (hpre : ∀ vm₁, s.WarmedH vm₁ → Pre ⟨T.setVm vm₁, locs, cells, slots⟩ (Value.ref b :: argsL).toArray) :
    (∃ (v : Option Value) (vm₁ : Vm) (B : Pt), s.WarmedH vm₁ ∧ Stand p l e R s m args below meth c B.U B.locs B.cells B.slots ∧ Post ⟨T.setVm vm₁, locs, cells, slots⟩ (Value.ref b :: argsL).toArray v B ∧
      ∀ target, Steps p.tables e below (B.U.setTop { g with pc := g.pc + 3, stack := v.toList ++ rest }) target → Steps p.tables e below (T.setTop g) target) ∨
    (∃ (q : Addr) (vm₁ : Vm) (B : Pt), s.WarmedH vm₁ ∧ Stand p l e R s m args below meth c B.U B.locs B.cells B.slots ∧ PostX ⟨T.setVm vm₁, locs, cells, slots⟩ (Value.ref b :: argsL).toArray q B ∧
      Steps p.tables e below (T.setTop g) ((B.U.setTop { g with stack := rest }).pushFrame (.throwing q))) := by
  obtain ⟨mk, methM, hnamed, hmethM, hstM, habM⟩ := Cond.instanceMethod_spec hinst
  obtain ⟨m8, methM', cM, hn8, hmethM', -, -, -, -, -, -, hsigM⟩ := Cond.codeWith_spec hcode
  cases Option.some.inj (hn8.symm.trans hnamed)
  cases hmethM.symm.trans hmethM'
  obtain ⟨c2, r2, m2, q1, q2, q3, q4, kP, hkP, hkPi⟩ := Cond.selects_spec hsel
  cases hcls.symm.trans q1
  cases (State.methodFound?_of_named hnamed hy).symm.trans q2
  cases hnamed.symm.trans q3
  have hselP : selectMethod e.platform s.vm cellB.cls mk = .method mk := by rw [Launch.admits_selectMethod X.admits]; exact q4
  obtain ⟨vm₁, X₁, hstep₁⟩ := X.invokevirtual hexec hown hlink hnamed hmethM hstM hkP hkPi hy (a := b) (cell := cellB) hcell
    (fun z h => by rw [h] at hobj; cases hobj) hselP hmethM habM hkP hkPi (g := g) hg (argsL := argsL) (rest := rest) (hlen _ hsigM) hstack hdg
  rcases hK m meth c ⟨T.setVm vm₁, locs, cells, slots⟩ { g with stack := rest } (.invokevirtual index) mk (Value.ref b :: argsL).toArray X₁ hg hsize hdg hW (X₁.named hnamed) (hpre vm₁ X₁.warmed) with ⟨v, B, X', hpost, hsteps⟩ | ⟨q, B, X', hpost, hsteps⟩
  · exact Or.inl ⟨v, vm₁, B, X₁.warmed, X', hpost, fun target h => hstep₁ _ fun acts => by rw [doInvoke_state]; exact hsteps.trans h⟩
  · exact Or.inr ⟨q, vm₁, B, X₁.warmed, X', hpost, hstep₁ _ fun acts => by rw [doInvoke_state]; exact hsteps⟩
theorem vx_callSX (X : Stand p l e R s m args below meth c T locs cells slots) (hexec : p.tables.exec = Jvm.exec) {own : String} {index : Nat} {y : MethodName} {bytes : ByteArray} {maxL : Nat} {ret : Option FieldType} {hh : List (Nat × Nat × Nat × Nat)}
    (hown : s.vm.findClass own = some m.cls) (hlink : (Cond.methodLink own index y).before args s = true) (hstat : (Cond.static y).before args s = true) (hinit : (Cond.initialized y.cls).before args s = true)
    (hcode : (Cond.codeWith y bytes maxL ret hh).before args s = true) (hy : y.cls ≠ "java/lang/invoke/MethodHandle" ∧ y.cls ≠ "java/lang/invoke/VarHandle")
    {W9 : Nat} {Pre : Pt → Array Value → Prop} {Post : Pt → Array Value → Option Value → Pt → Prop} {PostX : Pt → Array Value → Addr → Pt → Prop} (hK : vx_Back l R p e below s args y 3 W9 Pre Post PostX)
    {g : JFrame} (hg : g.method = m) (hsize : g.locals.size = c.maxLocals) {argsL rest : List Value} (hlen : ∀ sig, parseMethodDescriptor y.desc = some sig → argsL.length = sig.parameters.length)
    (hstack : g.stack = argsL.reverse ++ rest) (hW : 2 * g.monitorRoom + (rest.map fun v => v.category).sum ≤ W9) (hdg : decode c.code g.pc = .ok (.invokestatic index, 3))
    (hpre : ∀ vm₁, s.WarmedH vm₁ → Pre ⟨T.setVm vm₁, locs, cells, slots⟩ argsL.toArray) :
    (∃ (v : Option Value) (vm₁ : Vm) (B : Pt), s.WarmedH vm₁ ∧ Stand p l e R s m args below meth c B.U B.locs B.cells B.slots ∧ Post ⟨T.setVm vm₁, locs, cells, slots⟩ argsL.toArray v B ∧
      ∀ target, Steps p.tables e below (B.U.setTop { g with pc := g.pc + 3, stack := v.toList ++ rest }) target → Steps p.tables e below (T.setTop g) target) ∨
    (∃ (q : Addr) (vm₁ : Vm) (B : Pt), s.WarmedH vm₁ ∧ Stand p l e R s m args below meth c B.U B.locs B.cells B.slots ∧ PostX ⟨T.setVm vm₁, locs, cells, slots⟩ argsL.toArray q B ∧
      Steps p.tables e below (T.setTop g) ((B.U.setTop { g with stack := rest }).pushFrame (.throwing q))) := by
  obtain ⟨mk, methM, cM, hnamed, hmethM, -, -, -, -, -, -, hsigM⟩ := Cond.codeWith_spec hcode
  have hstatic : methM.isStatic = true := Cond.static_spec hnamed hmethM hstat
  obtain ⟨kP, hkP, -⟩ := className_of_methodNamed hnamed
  have hinitP : kP.init = .initialized := Cond.initialized_spec (findClass_of_methodNamed hnamed) hkP hinit
  obtain ⟨vm₁, X₁, hstep₁⟩ := X.invokestatic hexec hown hlink hnamed hmethM hstatic hkP hinitP hy (g := g) hg (argsL := argsL) (rest := rest) (hlen _ hsigM) hstack hdg
  rcases hK m meth c ⟨T.setVm vm₁, locs, cells, slots⟩ { g with stack := rest } (.invokestatic index) mk argsL.toArray X₁ hg hsize hdg hW (X₁.named hnamed) (hpre vm₁ X₁.warmed) with ⟨v, B, X', hpost, hsteps⟩ | ⟨q, B, X', hpost, hsteps⟩
  · exact Or.inl ⟨v, vm₁, B, X₁.warmed, X', hpost, fun target h => hstep₁ _ fun acts => by rw [doInvoke_state]; exact hsteps.trans h⟩
  · exact Or.inr ⟨q, vm₁, B, X₁.warmed, X', hpost, hstep₁ _ fun acts => by rw [doInvoke_state]; exact hsteps⟩
theorem vx_callVW (X : Stand p l e R s m args below meth c T locs cells slots) (hexec : p.tables.exec = Jvm.exec) {own C : String} {index : Nat} {y : MethodName} {bytes : ByteArray} {maxL : Nat} {ret : Option FieldType} {hh : List (Nat × Nat × Nat × Nat)}
    (hown : s.vm.findClass own = some m.cls) (hlink : (Cond.methodLink own index y).before args s = true) (hinst : (Cond.instanceMethod y).before args s = true) (hsel : (Cond.selects C y y).before args s = true)
    (hcode : (Cond.codeWith y bytes maxL ret hh).before args s = true) (hy : y.cls ≠ "java/lang/invoke/MethodHandle" ∧ y.cls ≠ "java/lang/invoke/VarHandle")
    {W9 : Nat} {Pre : Pt → Array Value → Prop} {Post : Pt → Array Value → Option Value → Pt → Prop} (hK : Back l R p e below s args y 3 W9 Pre Post)
    {b : Addr} {cellB : Cell} (hcell : T.heap[b]? = some cellB) (hobj : cellB.vm.isStatics = false) (hcls : s.vm.findClass C = some cellB.cls)
    {g : JFrame} (hg : g.method = m) (hsize : g.locals.size = c.maxLocals) {argsL rest : List Value} (hlen : ∀ sig, parseMethodDescriptor y.desc = some sig → argsL.length = sig.parameters.length)
    (hstack : g.stack = argsL.reverse ++ .ref b :: rest) (hW : 2 * g.monitorRoom + (rest.map fun v => v.category).sum ≤ W9) (hdg : decode c.code g.pc = .ok (.invokevirtual index, 3))
    (hpre : ∀ vm₁, s.WarmedH vm₁ → Pre ⟨T.setVm vm₁, locs, cells, slots⟩ (Value.ref b :: argsL).toArray) :
    ∃ (v : Option Value) (vm₁ : Vm) (B : Pt), s.WarmedH vm₁ ∧ Stand p l e R s m args below meth c B.U B.locs B.cells B.slots ∧ Post ⟨T.setVm vm₁, locs, cells, slots⟩ (Value.ref b :: argsL).toArray v B ∧
      ∀ target, Steps p.tables e below (B.U.setTop { g with pc := g.pc + 3, stack := v.toList ++ rest }) target → Steps p.tables e below (T.setTop g) target := by
  obtain ⟨mk, methM, hnamed, hmethM, hstM, habM⟩ := Cond.instanceMethod_spec hinst
  obtain ⟨m8, methM', cM, hn8, hmethM', -, -, -, -, -, -, hsigM⟩ := Cond.codeWith_spec hcode
  cases Option.some.inj (hn8.symm.trans hnamed)
  cases hmethM.symm.trans hmethM'
  obtain ⟨c2, r2, m2, q1, q2, q3, q4, kP, hkP, hkPi⟩ := Cond.selects_spec hsel
  cases hcls.symm.trans q1
  cases (State.methodFound?_of_named hnamed hy).symm.trans q2
  cases hnamed.symm.trans q3
  have hselP : selectMethod e.platform s.vm cellB.cls mk = .method mk := by rw [Launch.admits_selectMethod X.admits]; exact q4
  obtain ⟨vm₁, X₁, hstep₁⟩ := X.invokevirtual hexec hown hlink hnamed hmethM hstM hkP hkPi hy (a := b) (cell := cellB) hcell
    (fun z h => by rw [h] at hobj; cases hobj) hselP hmethM habM hkP hkPi (g := g) hg (argsL := argsL) (rest := rest) (hlen _ hsigM) hstack hdg
  obtain ⟨v, B, X', hpost, hsteps⟩ := hK m meth c ⟨T.setVm vm₁, locs, cells, slots⟩ { g with stack := rest } (.invokevirtual index) mk (Value.ref b :: argsL).toArray X₁ hg hsize hdg hW (X₁.named hnamed) (hpre vm₁ X₁.warmed)
  exact ⟨v, vm₁, B, X₁.warmed, X', hpost, fun target h => hstep₁ _ fun acts => by rw [doInvoke_state]; exact hsteps.trans h⟩
abbrev vx_CVW (R : Room) (s : State) (args : Array Value) (own C : String) (index : Nat) (y : MethodName) (bytes : ByteArray) (maxL : Nat) (ret : Option FieldType) (hh : List (Nat × Nat × Nat × Nat)) (ws : List Cond) (rm : Room) (mc ms n : Nat) : Prop :=
  (rm.cells = mc ∧ rm.slots = ms ∧ rm.frames + 1 ≤ R.frames ∧ 8 + (maxL + 11) + rm.locals ≤ R.locals ∧ (∀ w ∈ ws, ∀ (a' : Array Value) (U : State), s.WarmedH U.vm → w.before a' U = true) ∧ Cond.codeWith y bytes maxL ret hh ∈ ws) ∧
  (Cond.codeWith y bytes maxL ret hh).before args s = true ∧ (Cond.initialized y.cls).before args s = true ∧ (y.cls ≠ "java/lang/invoke/MethodHandle" ∧ y.cls ≠ "java/lang/invoke/VarHandle") ∧
  (∀ sig, parseMethodDescriptor y.desc = some sig → n = sig.parameters.length) ∧ (Cond.methodLink own index y).before args s = true ∧ (Cond.instanceMethod y).before args s = true ∧ (Cond.selects C y y).before args s = true
theorem vx_cwVW {own C : String} {index maxL mc ms : Nat} {y : MethodName} {bytes : ByteArray} {ret : Option FieldType} {hh : List (Nat × Nat × Nat × Nat)} {Ts ws ws' : List Cond} {rm : Room} (n : Nat) (ht : ∀ w ∈ Ts, w.before args s = true) (hT : GoodIn Ts (wsV own index C y ws)) (hw : ws = Cond.codeWith y bytes maxL ret hh :: ws') (hrc : rm.cells = mc) (hrs : rm.slots = ms)
    (hd : y.cls = C ∧ y.cls ≠ "java/lang/invoke/MethodHandle" ∧ y.cls ≠ "java/lang/invoke/VarHandle" ∧ (parseMethodDescriptor y.desc).map (fun d => d.parameters.length) = some n) (hR : rm.frames + 1 ≤ R.frames ∧ 8 + (maxL + 11) + rm.locals ≤ R.locals) :
    vx_CVW R s args own C index y bytes maxL ret hh ws rm mc ms n := by
  obtain ⟨hC, hd⟩ := hd
  subst hC
  have ok : ∀ w ∈ wsV own index y.cls y ws, w.before args s = true := fun w h => ht w (hT w h).1
  have hG : GoodIn Ts ws := fun w h => hT w (by unfold wsV; exact List.mem_append_right _ h)
  have hc : Cond.codeWith y bytes maxL ret hh ∈ ws := by rw [hw]; exact List.mem_cons_self
  refine ⟨⟨hrc, hrs, hR.1, hR.2, pay_in ht hG, hc⟩, ht _ (hG _ hc).1, ok _ (by simp [wsV]), ⟨hd.1, hd.2.1⟩, fun sig h => ?_, ok _ (by simp [wsV]), ok _ (by simp [wsV]), ok _ (by simp [wsV])⟩
  have h2 := hd.2.2
  rw [h] at h2
  exact (Option.some.inj h2).symm
theorem vx_runVW {y : MethodName} {bytes cc : ByteArray} {maxL nL mc ms n index : Nat} {ret : Option FieldType} {hh : List (Nat × Nat × Nat × Nat)} {ws : List Cond} {rm : Room} {Pc : Array Value → State → Prop} {Qc : Array Value → State → Outcome → State → Prop} {free : Addr → Prop} {Ts : List Cond} {own C : String} {b : Addr} {As rest : List Value} {g : JFrame}
    (S : CallFix p m c cc nL s args Ts own) (hM : Met l y ws rm Pc Qc mc ms free) (cw : vx_CVW R s args own C index y bytes maxL ret hh ws rm mc ms n) (hp : PreV s H C b Pc As)
    (hg : g.method = m) (hn : As.length = n) (hsize : g.locals.size = nL) (hstack : g.stack = As.reverse ++ .ref b :: rest) (hW : 2 * g.monitorRoom + (rest.map fun v => v.category).sum ≤ 8) (hdg : decode cc g.pc = .ok (.invokevirtual index, 3)) (hf : cells + mc ≤ R.cells ∧ slots + ms ≤ R.slots) :
    va_Run p l e R s m args below meth c H locs cells slots mc ms g rest (Qc (Value.ref b :: As).toArray) free := by
  obtain ⟨⟨hrc, hrs, hfr, hlo, hws, hcw⟩, hcode, hini, hy, hlen, hl, hin, hse⟩ := cw
  have hK : Back l R p e below s args y 3 8 (PreOf R mc ms Pc) (PostOf Qc mc ms free) := va_backW (hh := hh) (bytes := bytes) (maxL := maxL) (ret := ret) hM hp.1 hrc hrs hfr hlo hws hcw (fun a' U hW => word_at hW (Or.inl (by first | rfl | simp [Cond.onTables, Cond.keeps, Cond.steady])) hini)
  obtain ⟨hx, hb, hml, ho, -⟩ := S
  obtain ⟨-, ⟨cellB, hcB, hoB, hclB⟩, hPc⟩ := hp
  intro T hT X
  obtain ⟨v, vm₁, ⟨U', l2, c2, s2⟩, hW₁, X', ⟨g', mk, t, L, e1, e2, hq, h1, hL, h2, h3⟩, st⟩ := vx_callVW X hx (C := C) (hh := hh) (bytes := bytes) (maxL := maxL) (ret := ret) ho hl hin hse hcode hy hK (by rw [hT]; exact hcB) hoB hclB hg (hsize.trans hml.symm) (argsL := As) (rest := rest) (fun sig h => hn.trans (hlen sig h)) hstack hW (by rw [hb]; exact hdg)
    (fun vm₁ hW₁ => ⟨hf.1, hf.2, hPc (T.setVm vm₁) hT hW₁⟩)
  dsimp only [Pt.U, Pt.locs, Pt.cells, Pt.slots] at X' e1 e2 h1 h2 h3 st
  subst h1; subst h2; subst h3
  exact ⟨v, (T.setVm vm₁).calling g' mk (Value.ref b :: As).toArray, t, U', L, hT, X', hL, e1, e2, hq, st⟩
section
variable {y : MethodName} {bytes cc : ByteArray} {maxL nL mc ms n index : Nat} {ret : Option FieldType} {ws : List Cond} {rm : Room} {Pc : Array Value → State → Prop} {Qc : Array Value → State → Outcome → State → Prop} {XC : String → State → State → Prop} {free : Addr → Prop} {Ts : List Cond} {own C : String} {b : Addr} {As rest : List Value} {g : JFrame}
theorem vx_runVX {hh : List (Nat × Nat × Nat × Nat)} (S : CallFix p m c cc nL s args Ts own) (hM : vx_Met l y ws rm Pc Qc XC mc ms free) (cw : vx_CVW R s args own C index y bytes maxL ret hh ws rm mc ms n) (hp : PreV s H C b Pc As)
    (hg : g.method = m) (hn : As.length = n) (hsize : g.locals.size = nL) (hstack : g.stack = As.reverse ++ .ref b :: rest) (hW : 2 * g.monitorRoom + (rest.map fun v => v.category).sum ≤ 8) (hdg : decode cc g.pc = .ok (.invokevirtual index, 3)) (hf : cells + mc ≤ R.cells ∧ slots + ms ≤ R.slots) :
    vx_Run p l e R s m args below meth c H locs cells slots mc ms g rest (Qc (Value.ref b :: As).toArray) XC free := by
  obtain ⟨⟨hrc, hrs, hfr, hlo, hws, hcw⟩, hcode, hini, hy, hlen, hl, hin, hse⟩ := cw
  have hK : vx_Back l R p e below s args y 3 8 (PreOf R mc ms Pc) (PostOf Qc mc ms free) (vx_Post XC mc ms free) := vx_backW (hh := hh) (bytes := bytes) (maxL := maxL) (ret := ret) hM hp.1 hrc hrs hfr hlo hws hcw (fun a' U hW => word_at hW (Or.inl (by first | rfl | simp [Cond.onTables, Cond.keeps, Cond.steady])) hini)
  obtain ⟨hx, hb, hml, ho, -⟩ := S
  obtain ⟨-, ⟨cellB, hcB, hoB, hclB⟩, hPc⟩ := hp
  intro T hT X
  rcases vx_callVX X hx (C := C) (hh := hh) (bytes := bytes) (maxL := maxL) (ret := ret) ho hl hin hse hcode hy hK (by rw [hT]; exact hcB) hoB hclB hg (hsize.trans hml.symm) (argsL := As) (rest := rest) (fun sig h => hn.trans (hlen sig h)) hstack hW (by rw [hb]; exact hdg)
    (fun vm₁ hW₁ => ⟨hf.1, hf.2, hPc (T.setVm vm₁) hT hW₁⟩) with ⟨v, vm₁, ⟨U', l2, c2, s2⟩, hW₁, X', ⟨g', mk, t, L, e1, e2, hq, h1, hL, h2, h3⟩, st⟩ | ⟨q, vm₁, ⟨U', l2, c2, s2⟩, hW₁, X', ⟨g', mk, t, L, E, ce, e1, e2, hq, hce, hcv, hcl, h1, hL, h2, h3⟩, st⟩
  · dsimp only [Pt.U, Pt.locs, Pt.cells, Pt.slots] at X' e1 e2 h1 h2 h3 st
    subst h1; subst h2; subst h3
    exact Or.inl ⟨v, (T.setVm vm₁).calling g' mk (Value.ref b :: As).toArray, t, U', L, hT, X', hL, e1, e2, hq, st⟩
  · dsimp only [Pt.U, Pt.locs, Pt.cells, Pt.slots] at X' e1 e2 h1 h2 h3 st hcl
    subst h1; subst h2; subst h3
    exact Or.inr ⟨q, (T.setVm vm₁).calling g' mk (Value.ref b :: As).toArray, t, U', L, E, ce, hT, X', hL, e1, e2, hq, hce, hcv, vx_cls hW₁ hcl, st⟩
theorem vx_runSX {hh : List (Nat × Nat × Nat × Nat)} (S : CallFix p m c cc nL s args Ts own) (hM : vx_Met l y ws rm Pc Qc XC mc ms free) (cw : vx_CSW R s args own index y bytes maxL ret hh ws rm mc ms n) (hp : PreS s H Pc As)
    (hg : g.method = m) (hn : As.length = n) (hsize : g.locals.size = nL) (hstack : g.stack = As.reverse ++ rest) (hW : 2 * g.monitorRoom + (rest.map fun v => v.category).sum ≤ 8) (hdg : decode cc g.pc = .ok (.invokestatic index, 3)) (hf : cells + mc ≤ R.cells ∧ slots + ms ≤ R.slots) :
    vx_Run p l e R s m args below meth c H locs cells slots mc ms g rest (Qc As.toArray) XC free := by
  obtain ⟨⟨hrc, hrs, hfr, hlo, hws, hcw⟩, hcode, hini, hy, hlen, hl, hstt⟩ := cw
  have hK : vx_Back l R p e below s args y 3 8 (PreOf R mc ms Pc) (PostOf Qc mc ms free) (vx_Post XC mc ms free) := vx_backW (hh := hh) (bytes := bytes) (maxL := maxL) (ret := ret) hM hp.1 hrc hrs hfr hlo hws hcw (fun a' U hW => word_at hW (Or.inl (by first | rfl | simp [Cond.onTables, Cond.keeps, Cond.steady])) hini)
  obtain ⟨hx, hb, hml, ho, -⟩ := S
  intro T hT X
  rcases vx_callSX X hx (hh := hh) (bytes := bytes) (maxL := maxL) (ret := ret) ho hl hstt hini hcode hy hK hg (hsize.trans hml.symm) (argsL := As) (rest := rest) (fun sig h => hn.trans (hlen sig h)) hstack hW (by rw [hb]; exact hdg)
    (fun vm₁ hW₁ => ⟨hf.1, hf.2, hp.2 (T.setVm vm₁) hT hW₁⟩) with ⟨v, vm₁, ⟨U', l2, c2, s2⟩, hW₁, X', ⟨g', mk, t, L, e1, e2, hq, h1, hL, h2, h3⟩, st⟩ | ⟨q, vm₁, ⟨U', l2, c2, s2⟩, hW₁, X', ⟨g', mk, t, L, E, ce, e1, e2, hq, hce, hcv, hcl, h1, hL, h2, h3⟩, st⟩
  · dsimp only [Pt.U, Pt.locs, Pt.cells, Pt.slots] at X' e1 e2 h1 h2 h3 st
    subst h1; subst h2; subst h3
    exact Or.inl ⟨v, (T.setVm vm₁).calling g' mk As.toArray, t, U', L, hT, X', hL, e1, e2, hq, st⟩
  · dsimp only [Pt.U, Pt.locs, Pt.cells, Pt.slots] at X' e1 e2 h1 h2 h3 st hcl
    subst h1; subst h2; subst h3
    exact Or.inr ⟨q, (T.setVm vm₁).calling g' mk As.toArray, t, U', L, E, ce, hT, X', hL, e1, e2, hq, hce, hcv, vx_cls hW₁ hcl, st⟩
end
end VXH
theorem vx_ofWH {l : Launch} {y : MethodName} {ws ws' : List Cond} {rm : Room} {Pc : Array Value → State → Prop} {Qc : Array Value → State → Outcome → State → Prop} {XC : String → State → State → Prop} {mc ms : Nat} {free : Addr → Prop} {cc : ByteArray} {maxL : Nat} {ret : Option FieldType} {hh : List (Nat × Nat × Nat × Nat)}
    (hy : plainName y.cls = true) (hw : ws = Cond.codeWith y cc maxL ret hh :: ws')
    (body : ∀ p e s m args below meth c s₁, BodyLoose p l y (headSpec ws rm) cc maxL ret e s m args below meth c s₁ → c.maxLocals = maxL → Pc args s →
      W p l e (headSpec ws rm).room s m args below meth c s.heap [] 0 0 (vx_MQ below Qc XC args s mc ms free) (entryFrame m args maxL)) : vx_Met l y ws rm Pc Qc XC mc ms free := by
  refine MetFree.of_bodyS (code := cc) (maxLocals := maxL) (ret := ret) hy ?_ ?_
  · intro args s m h hn
    obtain ⟨m9, meth, c, hn9, h1, h2, h3, h4, -, h5, h6, -⟩ := Cond.codeWith_spec (atoms_spec (ws := ws) h _ (by rw [hw]; exact List.mem_cons_self))
    cases hn.symm.trans hn9
    exact ⟨meth, c, h1, h2, h3, h4, h5, h6⟩
  · intro p e s m args below meth c s₁ B hml hP _
    have hh0 : s₁.heap = s.heap := by rw [B.state]; rfl
    obtain ⟨t, a1, o, b1, b2, b3⟩ := body p e s m args below meth c s₁ B hml hP s₁ hh0 (Stand.of_body B)
    exact ⟨t, o, a1, b1, b2, b3⟩
/-! ===== END ===== -/
end
section
def RX0 : String := "Scriptorium$Book"
def TX0 : u_T := fun k => match k with
  | 0 => ("Scriptorium$Book", "script", "I", true)
  | 1 => ("Scriptorium$Book", "values", "[J", true)
  | _ => ("Scriptorium$Book", "sorts", "[I", true)
def tyX0 : Nat → FieldType := fun k => match k with
  | 0 => .int
  | 1 => .array .long
  | _ => .array .int
abbrev wsX00 : List Cond := u_ws RX0 TX0 3
theorem nmX0 : ∀ a, a < 3 → ∀ b, b < 3 → a ≠ b → (TX0 a).2.1 ≠ (TX0 b).2.1 := by decide +kernel
theorem tyX0_ok : ∀ k, k < 3 → parseFieldDescriptor (TX0 k).2.2.1 = some (tyX0 k) := by decide +kernel
abbrev cX0_init : ByteArray := prog_2_method_1_code
def yX0_init : MethodName := ⟨RX0, "<init>", "(II)V"⟩
abbrev cX0_length : ByteArray := prog_2_method_2_code
def yX0_length : MethodName := ⟨RX0, "length", "()I"⟩
abbrev cX0_isNoBook : ByteArray := prog_2_method_3_code
def yX0_isNoBook : MethodName := ⟨RX0, "isNoBook", "()Z"⟩
abbrev cX0_hasPictures : ByteArray := prog_2_method_4_code
def yX0_hasPictures : MethodName := ⟨RX0, "hasPictures", "()Z"⟩
abbrev cX0_isAlike : ByteArray := prog_2_method_5_code
def yX0_isAlike : MethodName := ⟨RX0, "isAlike", "(LScriptorium$Book;)Z"⟩
abbrev cX0_hasPlace : ByteArray := prog_2_method_6_code
def yX0_hasPlace : MethodName := ⟨RX0, "hasPlace", "(I)Z"⟩
abbrev cX0_hasRun : ByteArray := prog_2_method_7_code
def yX0_hasRun : MethodName := ⟨RX0, "hasRun", "(II)Z"⟩
abbrev cX0_admits : ByteArray := prog_2_method_8_code
def yX0_admits : MethodName := ⟨RX0, "admits", "(I)Z"⟩
abbrev cX0_cut : ByteArray := prog_2_method_9_code
def yX0_cut : MethodName := ⟨RX0, "cut", "(J)J"⟩
abbrev cX0_paint : ByteArray := prog_2_method_10_code
def yX0_paint : MethodName := ⟨RX0, "paint", "(IIJ)Z"⟩
abbrev cX0_signAt : ByteArray := prog_2_method_11_code
def yX0_signAt : MethodName := ⟨RX0, "signAt", "(I)J"⟩
abbrev cX0_fittingOf : ByteArray := prog_2_method_12_code
def yX0_fittingOf : MethodName := ⟨RX0, "fittingOf", "(LScriptorium$Book;II)I"⟩
abbrev cX0_take : ByteArray := prog_2_method_13_code
def yX0_take : MethodName := ⟨RX0, "take", "(LScriptorium$Book;III)V"⟩
def RX1 : String := "Scriptorium$Chronicle"
def TX1 : u_T := fun k => match k with
  | 0 => ("Scriptorium$Chronicle", "scribeNumbers", "[I", true)
  | 1 => ("Scriptorium$Chronicle", "sources", "[I", true)
  | 2 => ("Scriptorium$Chronicle", "targets", "[I", true)
  | 3 => ("Scriptorium$Chronicle", "answers", "[I", true)
  | 4 => ("Scriptorium$Chronicle", "next", "I", false)
  | _ => ("Scriptorium$Chronicle", "held", "I", false)
def tyX1 : Nat → FieldType := fun k => match k with
  | 0 => .array .int
  | 1 => .array .int
  | 2 => .array .int
  | 3 => .array .int
  | 4 => .int
  | _ => .int
abbrev wsX10 : List Cond := u_ws RX1 TX1 6
theorem nmX1 : ∀ a, a < 6 → ∀ b, b < 6 → a ≠ b → (TX1 a).2.1 ≠ (TX1 b).2.1 := by decide +kernel
theorem tyX1_ok : ∀ k, k < 6 → parseFieldDescriptor (TX1 k).2.2.1 = some (tyX1 k) := by decide +kernel
abbrev cX1_init : ByteArray := prog_3_method_1_code
def yX1_init : MethodName := ⟨RX1, "<init>", "()V"⟩
abbrev cX1_has : ByteArray := prog_3_method_2_code
def yX1_has : MethodName := ⟨RX1, "has", "(I)Z"⟩
abbrev cX1_rowOf : ByteArray := prog_3_method_3_code
def yX1_rowOf : MethodName := ⟨RX1, "rowOf", "(I)I"⟩
abbrev cX1_add : ByteArray := prog_3_method_4_code
def yX1_add : MethodName := ⟨RX1, "add", "(LScriptorium$Passage;I)V"⟩
def RX2 : String := "Scriptorium$Passage"
def TX2 : u_T := fun k => match k with
  | 0 => ("Scriptorium$Passage", "scribe", "I", true)
  | 1 => ("Scriptorium$Passage", "a", "I", true)
  | 2 => ("Scriptorium$Passage", "i", "I", true)
  | 3 => ("Scriptorium$Passage", "b", "I", true)
  | 4 => ("Scriptorium$Passage", "j", "I", true)
  | _ => ("Scriptorium$Passage", "n", "I", true)
def tyX2 : Nat → FieldType := fun k => match k with
  | 0 => .int
  | 1 => .int
  | 2 => .int
  | 3 => .int
  | 4 => .int
  | _ => .int
abbrev wsX20 : List Cond := u_ws RX2 TX2 6
theorem nmX2 : ∀ a, a < 6 → ∀ b, b < 6 → a ≠ b → (TX2 a).2.1 ≠ (TX2 b).2.1 := by decide +kernel
theorem tyX2_ok : ∀ k, k < 6 → parseFieldDescriptor (TX2 k).2.2.1 = some (tyX2 k) := by decide +kernel
abbrev cX2_init : ByteArray := prog_4_method_1_code
def yX2_init : MethodName := ⟨RX2, "<init>", "(IIIIII)V"⟩
def RX3 : String := "Scriptorium$Scribe"
def TX3 : u_T := fun k => match k with
  | 0 => ("Scriptorium$Scribe", "ink", "I", false)
  | 1 => ("Scriptorium$Scribe", "copied", "I", false)
  | 2 => ("Scriptorium$Scribe", "waiting", "I", false)
  | _ => ("Scriptorium$Scribe", "orders", "[LScriptorium$Passage;", true)
def tyX3 : Nat → FieldType := fun k => match k with
  | 0 => .int
  | 1 => .int
  | 2 => .int
  | _ => .array (.object "Scriptorium$Passage")
abbrev wsX30 : List Cond := u_ws RX3 TX3 4
theorem nmX3 : ∀ a, a < 4 → ∀ b, b < 4 → a ≠ b → (TX3 a).2.1 ≠ (TX3 b).2.1 := by decide +kernel
theorem tyX3_ok : ∀ k, k < 4 → parseFieldDescriptor (TX3 k).2.2.1 = some (tyX3 k) := by decide +kernel
abbrev cX3_init : ByteArray := prog_5_method_1_code
def yX3_init : MethodName := ⟨RX3, "<init>", "()V"⟩
abbrev cX3_use : ByteArray := prog_5_method_2_code
def yX3_use : MethodName := ⟨RX3, "use", "(I)V"⟩
abbrev cX3_addOrder : ByteArray := prog_5_method_3_code
def yX3_addOrder : MethodName := ⟨RX3, "addOrder", "(LScriptorium$Passage;)I"⟩
abbrev cX3_firstOrder : ByteArray := prog_5_method_4_code
def yX3_firstOrder : MethodName := ⟨RX3, "firstOrder", "()LScriptorium$Passage;"⟩
abbrev cX3_dropFirstOrder : ByteArray := prog_5_method_5_code
def yX3_dropFirstOrder : MethodName := ⟨RX3, "dropFirstOrder", "()V"⟩
def RX4 : String := "Scriptorium"
def TX4 : u_T := fun k => match k with
  | 0 => ("Scriptorium", "nothing", "LScriptorium$Book;", true)
  | 1 => ("Scriptorium", "rock", "LScriptorium$Book;", true)
  | 2 => ("Scriptorium", "desks", "[LScriptorium$Book;", true)
  | 3 => ("Scriptorium", "scribes", "[LScriptorium$Scribe;", true)
  | 4 => ("Scriptorium", "latest", "LScriptorium$Chronicle;", true)
  | _ => ("Scriptorium", "tallies", "[I", true)
def tyX4 : Nat → FieldType := fun k => match k with
  | 0 => .object "Scriptorium$Book"
  | 1 => .object "Scriptorium$Book"
  | 2 => .array (.object "Scriptorium$Book")
  | 3 => .array (.object "Scriptorium$Scribe")
  | 4 => .object "Scriptorium$Chronicle"
  | _ => .array .int
abbrev wsX40 : List Cond := u_ws RX4 TX4 6
theorem nmX4 : ∀ a, a < 6 → ∀ b, b < 6 → a ≠ b → (TX4 a).2.1 ≠ (TX4 b).2.1 := by decide +kernel
theorem tyX4_ok : ∀ k, k < 6 → parseFieldDescriptor (TX4 k).2.2.1 = some (tyX4 k) := by decide +kernel
abbrev cX4_init : ByteArray := prog_1_method_1_code
def yX4_init : MethodName := ⟨RX4, "<init>", "()V"⟩
abbrev cX4_bind : ByteArray := prog_1_method_2_code
def yX4_bind : MethodName := ⟨RX4, "bind", "(III)I"⟩
abbrev cX4_stone : ByteArray := prog_1_method_3_code
def yX4_stone : MethodName := ⟨RX4, "stone", "(I)I"⟩
abbrev cX4_share : ByteArray := prog_1_method_4_code
def yX4_share : MethodName := ⟨RX4, "share", "(II)I"⟩
abbrev cX4_clear : ByteArray := prog_1_method_5_code
def yX4_clear : MethodName := ⟨RX4, "clear", "(I)I"⟩
abbrev cX4_write : ByteArray := prog_1_method_6_code
def yX4_write : MethodName := ⟨RX4, "write", "(IIIJ)I"⟩
abbrev cX4_copy : ByteArray := prog_1_method_7_code
def yX4_copy : MethodName := ⟨RX4, "copy", "(IIIIII)I"⟩
abbrev cX4_order : ByteArray := prog_1_method_8_code
def yX4_order : MethodName := ⟨RX4, "order", "(IIIIII)I"⟩
abbrev cX4_day : ByteArray := prog_1_method_9_code
def yX4_day : MethodName := ⟨RX4, "day", "()I"⟩
abbrev cX4_fill : ByteArray := prog_1_method_10_code
def yX4_fill : MethodName := ⟨RX4, "fill", "(II)I"⟩
abbrev cX4_scribe : ByteArray := prog_1_method_11_code
def yX4_scribe : MethodName := ⟨RX4, "scribe", "(II)I"⟩
abbrev cX4_sign : ByteArray := prog_1_method_12_code
def yX4_sign : MethodName := ⟨RX4, "sign", "(II)J"⟩
abbrev cX4_book : ByteArray := prog_1_method_13_code
def yX4_book : MethodName := ⟨RX4, "book", "(II)I"⟩
abbrev cX4_differ : ByteArray := prog_1_method_14_code
def yX4_differ : MethodName := ⟨RX4, "differ", "(II)I"⟩
abbrev cX4_chronicle : ByteArray := prog_1_method_15_code
def yX4_chronicle : MethodName := ⟨RX4, "chronicle", "(II)I"⟩
abbrev cX4_count : ByteArray := prog_1_method_16_code
def yX4_count : MethodName := ⟨RX4, "count", "(I)I"⟩
abbrev cX4_isDesk : ByteArray := prog_1_method_17_code
def yX4_isDesk : MethodName := ⟨RX4, "isDesk", "(I)Z"⟩
abbrev cX4_isScribe : ByteArray := prog_1_method_18_code
def yX4_isScribe : MethodName := ⟨RX4, "isScribe", "(I)Z"⟩
abbrev cX4_isPossible : ByteArray := prog_1_method_19_code
def yX4_isPossible : MethodName := ⟨RX4, "isPossible", "(LScriptorium$Passage;)Z"⟩
abbrev cX4_lay : ByteArray := prog_1_method_20_code
def yX4_lay : MethodName := ⟨RX4, "lay", "(ILScriptorium$Book;)I"⟩
abbrev cX4_perform : ByteArray := prog_1_method_21_code
def yX4_perform : MethodName := ⟨RX4, "perform", "(LScriptorium$Passage;)I"⟩
abbrev cX4_transcribe : ByteArray := prog_1_method_22_code
def yX4_transcribe : MethodName := ⟨RX4, "transcribe", "(LScriptorium$Passage;LScriptorium$Book;LScriptorium$Book;)I"⟩
abbrev cX4_hindranceBetween : ByteArray := prog_1_method_23_code
def yX4_hindranceBetween : MethodName := ⟨RX4, "hindranceBetween", "(LScriptorium$Book;LScriptorium$Book;)I"⟩
abbrev cX4_firstDifference : ByteArray := prog_1_method_24_code
def yX4_firstDifference : MethodName := ⟨RX4, "firstDifference", "(LScriptorium$Book;LScriptorium$Book;)I"⟩
abbrev cX4_signsCopied : ByteArray := prog_1_method_25_code
def yX4_signsCopied : MethodName := ⟨RX4, "signsCopied", "(I)I"⟩
abbrev cX4_tallyOf : ByteArray := prog_1_method_26_code
def yX4_tallyOf : MethodName := ⟨RX4, "tallyOf", "(I)I"⟩
def RX5 : String := "ScriptoriumModel"
def TX5 : u_T := fun k => match k with
  | 0 => ("ScriptoriumModel", "desk", "[I", true)
  | 1 => ("ScriptoriumModel", "script", "[I", true)
  | 2 => ("ScriptoriumModel", "size", "[I", true)
  | 3 => ("ScriptoriumModel", "sign", "[J", true)
  | 4 => ("ScriptoriumModel", "ink", "[I", true)
  | 5 => ("ScriptoriumModel", "copied", "[I", true)
  | 6 => ("ScriptoriumModel", "wait", "[I", true)
  | 7 => ("ScriptoriumModel", "waits", "[I", true)
  | 8 => ("ScriptoriumModel", "chronicle", "[I", true)
  | 9 => ("ScriptoriumModel", "counts", "[I", true)
  | _ => ("ScriptoriumModel", "thrown", "I", false)
def tyX5 : Nat → FieldType := fun k => match k with
  | 0 => .array .int
  | 1 => .array .int
  | 2 => .array .int
  | 3 => .array .long
  | 4 => .array .int
  | 5 => .array .int
  | 6 => .array .int
  | 7 => .array .int
  | 8 => .array .int
  | 9 => .array .int
  | _ => .int
abbrev wsX50 : List Cond := u_ws RX5 TX5 11
theorem nmX5 : ∀ a, a < 11 → ∀ b, b < 11 → a ≠ b → (TX5 a).2.1 ≠ (TX5 b).2.1 := by decide +kernel
theorem tyX5_ok : ∀ k, k < 11 → parseFieldDescriptor (TX5 k).2.2.1 = some (tyX5 k) := by decide +kernel
abbrev cX5_init : ByteArray := prog_7_method_1_code
def yX5_init : MethodName := ⟨RX5, "<init>", "()V"⟩
abbrev cX5_thrown : ByteArray := prog_7_method_2_code
def yX5_thrown : MethodName := ⟨RX5, "thrown", "()I"⟩
abbrev cX5_isDesk : ByteArray := prog_7_method_3_code
def yX5_isDesk : MethodName := ⟨RX5, "isDesk", "(I)Z"⟩
abbrev cX5_isScribe : ByteArray := prog_7_method_4_code
def yX5_isScribe : MethodName := ⟨RX5, "isScribe", "(I)Z"⟩
abbrev cX5_isUsed : ByteArray := prog_7_method_5_code
def yX5_isUsed : MethodName := ⟨RX5, "isUsed", "(II)Z"⟩
abbrev cX5_bind : ByteArray := prog_7_method_6_code
def yX5_bind : MethodName := ⟨RX5, "bind", "(III)I"⟩
abbrev cX5_stone : ByteArray := prog_7_method_7_code
def yX5_stone : MethodName := ⟨RX5, "stone", "(I)I"⟩
abbrev cX5_share : ByteArray := prog_7_method_8_code
def yX5_share : MethodName := ⟨RX5, "share", "(II)I"⟩
abbrev cX5_clear : ByteArray := prog_7_method_9_code
def yX5_clear : MethodName := ⟨RX5, "clear", "(I)I"⟩
abbrev cX5_isPictures : ByteArray := prog_7_method_10_code
def yX5_isPictures : MethodName := ⟨RX5, "isPictures", "(I)Z"⟩
abbrev cX5_may : ByteArray := prog_7_method_11_code
def yX5_may : MethodName := ⟨RX5, "may", "(IJ)Z"⟩
abbrev cX5_cut : ByteArray := prog_7_method_12_code
def yX5_cut : MethodName := ⟨RX5, "cut", "(IJ)J"⟩
abbrev cX5_write : ByteArray := prog_7_method_13_code
def yX5_write : MethodName := ⟨RX5, "write", "(IIIJ)I"⟩
abbrev cX5_unlike : ByteArray := prog_7_method_14_code
def yX5_unlike : MethodName := ⟨RX5, "unlike", "(II)I"⟩
abbrev cX5_passes : ByteArray := prog_7_method_15_code
def yX5_passes : MethodName := ⟨RX5, "passes", "(IIIII)I"⟩
abbrev cX5_copy : ByteArray := prog_7_method_16_code
def yX5_copy : MethodName := ⟨RX5, "copy", "(IIIIII)I"⟩
abbrev cX5_order : ByteArray := prog_7_method_17_code
def yX5_order : MethodName := ⟨RX5, "order", "(IIIIII)I"⟩
abbrev cX5_day : ByteArray := prog_7_method_18_code
def yX5_day : MethodName := ⟨RX5, "day", "()I"⟩
abbrev cX5_fill : ByteArray := prog_7_method_19_code
def yX5_fill : MethodName := ⟨RX5, "fill", "(II)I"⟩
abbrev cX5_scribe : ByteArray := prog_7_method_20_code
def yX5_scribe : MethodName := ⟨RX5, "scribe", "(II)I"⟩
abbrev cX5_sign : ByteArray := prog_7_method_21_code
def yX5_sign : MethodName := ⟨RX5, "sign", "(II)J"⟩
abbrev cX5_book : ByteArray := prog_7_method_22_code
def yX5_book : MethodName := ⟨RX5, "book", "(II)I"⟩
abbrev cX5_differ : ByteArray := prog_7_method_23_code
def yX5_differ : MethodName := ⟨RX5, "differ", "(II)I"⟩
abbrev cX5_chronicle : ByteArray := prog_7_method_24_code
def yX5_chronicle : MethodName := ⟨RX5, "chronicle", "(II)I"⟩
abbrev cX5_count : ByteArray := prog_7_method_25_code
def yX5_count : MethodName := ⟨RX5, "count", "(I)I"⟩
def RJ9 : String := "java/lang/Math"
def TJ9 : u_T := fun k => match k with
  | _ => ("", "", "", false)
def tyJ9 : Nat → FieldType := fun k => match k with
  | _ => .int
abbrev wsJ90 : List Cond := u_ws RJ9 TJ9 0
theorem nmJ9 : ∀ a, a < 0 → ∀ b, b < 0 → a ≠ b → (TJ9 a).2.1 ≠ (TJ9 b).2.1 := by decide +kernel
theorem tyJ9_ok : ∀ k, k < 0 → parseFieldDescriptor (TJ9 k).2.2.1 = some (tyJ9 k) := by decide +kernel
abbrev cJ9_floorMod_7cf53 : ByteArray := prog_11_method_50_code
def yJ9_floorMod_7cf53 : MethodName := ⟨RJ9, "floorMod", "(II)I"⟩
abbrev cJ9_min_7cf53 : ByteArray := prog_11_method_69_code
def yJ9_min_7cf53 : MethodName := ⟨RJ9, "min", "(II)I"⟩
def RJ0 : String := "java/lang/String"
def TJ0 : u_T := fun k => match k with
  | _ => ("", "", "", false)
def tyJ0 : Nat → FieldType := fun k => match k with
  | _ => .int
abbrev wsJ00 : List Cond := u_ws RJ0 TJ0 0
theorem nmJ0 : ∀ a, a < 0 → ∀ b, b < 0 → a ≠ b → (TJ0 a).2.1 ≠ (TJ0 b).2.1 := by decide +kernel
theorem tyJ0_ok : ∀ k, k < 0 → parseFieldDescriptor (TJ0 k).2.2.1 = some (tyJ0 k) := by decide +kernel
def RJ10 : String := "java/lang/System"
def TJ10 : u_T := fun k => match k with
  | _ => ("", "", "", false)
def tyJ10 : Nat → FieldType := fun k => match k with
  | _ => .int
abbrev wsJ100 : List Cond := u_ws RJ10 TJ10 0
theorem nmJ10 : ∀ a, a < 0 → ∀ b, b < 0 → a ≠ b → (TJ10 a).2.1 ≠ (TJ10 b).2.1 := by decide +kernel
theorem tyJ10_ok : ∀ k, k < 0 → parseFieldDescriptor (TJ10 k).2.2.1 = some (tyJ10 k) := by decide +kernel
def RL : String := "ScriptoriumLaw"
abbrev cL_sign : ByteArray := method_3_code
def yL_sign : MethodName := ⟨RL, "sign", "(LScriptorium;II[J)I"⟩
abbrev cL_law : ByteArray := code
def yL_law : MethodName := ⟨RL, "law", "([I)Z"⟩
def wsX0_init : List Cond := .code yX0_init cX0_init 3 none :: ([.methodLink RX0 3 objectInit, .instanceMethod objectInit, .code objectInit ⟨#[0xb1]⟩ 1 none, .fieldLink RX0 9 "Scriptorium$Book" "script" "I", .arrayClass .long, .fieldLink RX0 15 "Scriptorium$Book" "values" "[J", .arrayClass .int, .fieldLink RX0 19 "Scriptorium$Book" "sorts" "[I"] ++ wsX00)
def wsX0_length : List Cond := .code yX0_length cX0_length 1 (some .int) :: ([.fieldLink RX0 15 "Scriptorium$Book" "values" "[J"] ++ wsX00)
def wsX0_isNoBook : List Cond := .code yX0_isNoBook cX0_isNoBook 1 (some .boolean) :: ([.fieldLink RX0 9 "Scriptorium$Book" "script" "I"] ++ wsX00)
def wsX0_hasPictures : List Cond := .code yX0_hasPictures cX0_hasPictures 1 (some .boolean) :: ([.fieldLink RX0 9 "Scriptorium$Book" "script" "I"] ++ wsX00)
def wsX0_isAlike : List Cond := .code yX0_isAlike cX0_isAlike 2 (some .boolean) :: ([.fieldLink RX0 9 "Scriptorium$Book" "script" "I", .methodLink RX0 23 yX0_isNoBook, .instanceMethod yX0_isNoBook, .selects RX0 yX0_isNoBook yX0_isNoBook, .initialized RX0, .code yX0_isNoBook cX0_isNoBook 1 (some .boolean), .methodLink RX0 27 yX0_hasPictures, .instanceMethod yX0_hasPictures, .selects RX0 yX0_hasPictures yX0_hasPictures, .code yX0_hasPictures cX0_hasPictures 1 (some .boolean)] ++ wsX00)
def wsX0_hasPlace : List Cond := .code yX0_hasPlace cX0_hasPlace 2 (some .boolean) :: ([.fieldLink RX0 15 "Scriptorium$Book" "values" "[J"] ++ wsX00)
def wsX0_hasRun : List Cond := .code yX0_hasRun cX0_hasRun 3 (some .boolean) :: ([.fieldLink RX0 15 "Scriptorium$Book" "values" "[J"] ++ wsX00)
def wsX0_admits : List Cond := .code yX0_admits cX0_admits 2 (some .boolean) :: ([.fieldLink RX0 9 "Scriptorium$Book" "script" "I"] ++ wsX00)
def wsX0_cut : List Cond := .code yX0_cut cX0_cut 3 (some .long) :: ([.fieldLink RX0 9 "Scriptorium$Book" "script" "I"] ++ wsX00)
def wsX0_paint : List Cond := .code yX0_paint cX0_paint 5 (some .boolean) :: ([.fieldLink RX0 19 "Scriptorium$Book" "sorts" "[I", .fieldLink RX0 15 "Scriptorium$Book" "values" "[J", .methodLink RX0 30 yX0_admits, .instanceMethod yX0_admits, .selects RX0 yX0_admits yX0_admits, .initialized RX0, .code yX0_admits cX0_admits 2 (some .boolean), .fieldLink RX0 9 "Scriptorium$Book" "script" "I"] ++ wsX00)
def wsX0_signAt : List Cond := .code yX0_signAt cX0_signAt 2 (some .long) :: ([.constantLong RX0 34 (4), .fieldLink RX0 15 "Scriptorium$Book" "values" "[J", .fieldLink RX0 19 "Scriptorium$Book" "sorts" "[I", .methodLink RX0 27 yX0_hasPictures, .instanceMethod yX0_hasPictures, .selects RX0 yX0_hasPictures yX0_hasPictures, .initialized RX0, .code yX0_hasPictures cX0_hasPictures 1 (some .boolean), .fieldLink RX0 9 "Scriptorium$Book" "script" "I"] ++ wsX00)
def wsX0_fittingOf : List Cond := .code yX0_fittingOf cX0_fittingOf 5 (some .int) :: ([.fieldLink RX0 19 "Scriptorium$Book" "sorts" "[I", .methodLink RX0 30 yX0_admits, .instanceMethod yX0_admits, .selects RX0 yX0_admits yX0_admits, .initialized RX0, .code yX0_admits cX0_admits 2 (some .boolean), .fieldLink RX0 9 "Scriptorium$Book" "script" "I"] ++ wsX00)
def wsX0_take : List Cond := .code yX0_take cX0_take 5 none :: ([.fieldLink RX0 15 "Scriptorium$Book" "values" "[J", .methodLink RX0 36 arraycopyName, .native arraycopyName, .static arraycopyName, .initialized "java/lang/System", .fieldLink RX0 19 "Scriptorium$Book" "sorts" "[I"] ++ wsX00)
def wsX1_init : List Cond := .code yX1_init cX1_init 1 none :: ([.methodLink RX1 3 objectInit, .instanceMethod objectInit, .code objectInit ⟨#[0xb1]⟩ 1 none, .arrayClass .int, .fieldLink RX1 9 "Scriptorium$Chronicle" "scribeNumbers" "[I", .fieldLink RX1 15 "Scriptorium$Chronicle" "sources" "[I", .fieldLink RX1 18 "Scriptorium$Chronicle" "targets" "[I", .fieldLink RX1 21 "Scriptorium$Chronicle" "answers" "[I"] ++ wsX10)
def wsX1_has : List Cond := .code yX1_has cX1_has 2 (some .boolean) :: ([.fieldLink RX1 24 "Scriptorium$Chronicle" "held" "I"] ++ wsX10)
def wsJ9_floorMod_7cf53 : List Cond := .code yJ9_floorMod_7cf53 cJ9_floorMod_7cf53 3 (some .int) :: ([])
def wsX1_rowOf : List Cond := .code yX1_rowOf cX1_rowOf 2 (some .int) :: ([.fieldLink RX1 28 "Scriptorium$Chronicle" "next" "I", .methodLink RX1 31 yJ9_floorMod_7cf53, .static yJ9_floorMod_7cf53, .initialized RJ9, .code yJ9_floorMod_7cf53 cJ9_floorMod_7cf53 3 (some .int)] ++ wsX10)
def wsX1_add : List Cond := .code yX1_add cX1_add 3 none :: ([.fieldLink RX1 9 "Scriptorium$Chronicle" "scribeNumbers" "[I", .fieldLink RX1 28 "Scriptorium$Chronicle" "next" "I", .fieldLink RX1 37 "Scriptorium$Passage" "scribe" "I", .fieldLink RX1 15 "Scriptorium$Chronicle" "sources" "[I", .fieldLink RX1 42 "Scriptorium$Passage" "a" "I", .fieldLink RX1 18 "Scriptorium$Chronicle" "targets" "[I", .fieldLink RX1 45 "Scriptorium$Passage" "b" "I", .fieldLink RX1 21 "Scriptorium$Chronicle" "answers" "[I", .fieldLink RX1 24 "Scriptorium$Chronicle" "held" "I", .methodLink RX1 48 Lib.Math.min.name, .static Lib.Math.min.name, .initialized "java/lang/Math", .code Lib.Math.min.name Lib.Math.min.code 2 (some .int)] ++ wsX10 ++ wsX20)
def wsX2_init : List Cond := .code yX2_init cX2_init 7 none :: ([.methodLink RX2 1 objectInit, .instanceMethod objectInit, .code objectInit ⟨#[0xb1]⟩ 1 none, .fieldLink RX2 7 "Scriptorium$Passage" "scribe" "I", .fieldLink RX2 13 "Scriptorium$Passage" "a" "I", .fieldLink RX2 16 "Scriptorium$Passage" "i" "I", .fieldLink RX2 19 "Scriptorium$Passage" "b" "I", .fieldLink RX2 22 "Scriptorium$Passage" "j" "I", .fieldLink RX2 25 "Scriptorium$Passage" "n" "I"] ++ wsX20)
def wsX3_init : List Cond := .code yX3_init cX3_init 1 none :: ([.methodLink RX3 3 objectInit, .instanceMethod objectInit, .code objectInit ⟨#[0xb1]⟩ 1 none, .fieldLink RX3 9 "Scriptorium$Scribe" "ink" "I", .classLink RX3 15 RX2, .fieldLink RX3 17 "Scriptorium$Scribe" "orders" "[LScriptorium$Passage;"] ++ wsX30)
def wsX3_use : List Cond := .code yX3_use cX3_use 2 none :: ([.fieldLink RX3 9 "Scriptorium$Scribe" "ink" "I", .fieldLink RX3 21 "Scriptorium$Scribe" "copied" "I"] ++ wsX30)
def wsX3_addOrder : List Cond := .code yX3_addOrder cX3_addOrder 2 (some .int) :: ([.fieldLink RX3 24 "Scriptorium$Scribe" "waiting" "I", .fieldLink RX3 17 "Scriptorium$Scribe" "orders" "[LScriptorium$Passage;"] ++ wsX30)
def wsX3_firstOrder : List Cond := .code yX3_firstOrder cX3_firstOrder 1 (some (.object "Scriptorium$Passage")) :: ([.fieldLink RX3 24 "Scriptorium$Scribe" "waiting" "I", .fieldLink RX3 17 "Scriptorium$Scribe" "orders" "[LScriptorium$Passage;"] ++ wsX30)
def wsX3_dropFirstOrder : List Cond := .code yX3_dropFirstOrder cX3_dropFirstOrder 2 none :: ([.fieldLink RX3 24 "Scriptorium$Scribe" "waiting" "I", .fieldLink RX3 17 "Scriptorium$Scribe" "orders" "[LScriptorium$Passage;"] ++ wsX30)
def wsX4_init_r1 : List Cond := [Cond.methodLink RX4 1 objectInit, Cond.instanceMethod objectInit, Cond.code objectInit ⟨#[0xb1]⟩ 1 none, Cond.classLink RX4 7 RX0, Cond.instantiable RX0 3, Cond.initialized RX0, Cond.fieldLink RX4 14 "Scriptorium" "nothing" "LScriptorium$Book;", Cond.fieldLink RX4 18 "Scriptorium" "rock" "LScriptorium$Book;", Cond.fieldLink RX4 21 "Scriptorium" "desks" "[LScriptorium$Book;", Cond.classLink RX4 25 RX3, Cond.fieldLink RX4 27 "Scriptorium" "scribes" "[LScriptorium$Scribe;", Cond.instantiable RX3 4, Cond.initialized RX3, Cond.classLink RX4 32 RX1, Cond.instantiable RX1 6, Cond.initialized RX1, Cond.fieldLink RX4 35 "Scriptorium" "latest" "LScriptorium$Chronicle;", Cond.arrayClass .int, Cond.fieldLink RX4 39 "Scriptorium" "tallies" "[I", Cond.methodLink RX4 11 yX0_init, Cond.instanceMethod yX0_init, Cond.code yX0_init cX0_init 3 none, Cond.methodLink RX0 3 objectInit, Cond.fieldLink RX0 9 "Scriptorium$Book" "script" "I"]
def wsX4_init_r2 : List Cond := [Cond.arrayClass .long, Cond.fieldLink RX0 15 "Scriptorium$Book" "values" "[J", Cond.fieldLink RX0 19 "Scriptorium$Book" "sorts" "[I", Cond.methodLink RX4 31 yX3_init, Cond.instanceMethod yX3_init, Cond.code yX3_init cX3_init 1 none, Cond.methodLink RX3 3 objectInit, Cond.fieldLink RX3 9 "Scriptorium$Scribe" "ink" "I", Cond.classLink RX3 15 RX2, Cond.fieldLink RX3 17 "Scriptorium$Scribe" "orders" "[LScriptorium$Passage;", Cond.methodLink RX4 34 yX1_init, Cond.instanceMethod yX1_init, Cond.code yX1_init cX1_init 1 none, Cond.methodLink RX1 3 objectInit, Cond.fieldLink RX1 9 "Scriptorium$Chronicle" "scribeNumbers" "[I", Cond.fieldLink RX1 15 "Scriptorium$Chronicle" "sources" "[I", Cond.fieldLink RX1 18 "Scriptorium$Chronicle" "targets" "[I", Cond.fieldLink RX1 21 "Scriptorium$Chronicle" "answers" "[I"]
def wsX4_init : List Cond := .code yX4_init cX4_init 2 none :: ((wsX4_init_r1 ++ wsX4_init_r2) ++ wsX00 ++ wsX40 ++ wsX30 ++ wsX10)
def wsX4_isDesk : List Cond := .code yX4_isDesk cX4_isDesk 1 (some .boolean) :: ([])
def wsX4_lay : List Cond := .code yX4_lay cX4_lay 3 (some .int) :: ([.fieldLink RX4 21 "Scriptorium" "desks" "[LScriptorium$Book;", .methodLink RX4 43 yX4_isDesk, .static yX4_isDesk, .initialized RX4, .code yX4_isDesk cX4_isDesk 1 (some .boolean)] ++ wsX40)
def wsX4_bind : List Cond := .code yX4_bind cX4_bind 4 (some .int) :: ([.fieldLink RX4 39 "Scriptorium" "tallies" "[I", .classLink RX4 7 RX0, .instantiable RX0 3, .initialized RX0, .methodLink RX4 43 yX4_isDesk, .static yX4_isDesk, .initialized RX4, .code yX4_isDesk cX4_isDesk 1 (some .boolean), .methodLink RX4 11 yX0_init, .instanceMethod yX0_init, .code yX0_init cX0_init 3 none, .methodLink RX0 3 objectInit, .instanceMethod objectInit, .code objectInit ⟨#[0xb1]⟩ 1 none, .fieldLink RX0 9 "Scriptorium$Book" "script" "I", .arrayClass .long, .fieldLink RX0 15 "Scriptorium$Book" "values" "[J", .arrayClass .int, .fieldLink RX0 19 "Scriptorium$Book" "sorts" "[I", .methodLink RX4 47 yX4_lay, .instanceMethod yX4_lay, .selects RX4 yX4_lay yX4_lay, .code yX4_lay cX4_lay 3 (some .int), .fieldLink RX4 21 "Scriptorium" "desks" "[LScriptorium$Book;"] ++ wsX40 ++ wsX00)
def wsX4_stone : List Cond := .code yX4_stone cX4_stone 2 (some .int) :: ([.fieldLink RX4 18 "Scriptorium" "rock" "LScriptorium$Book;", .methodLink RX4 47 yX4_lay, .instanceMethod yX4_lay, .selects RX4 yX4_lay yX4_lay, .initialized RX4, .code yX4_lay cX4_lay 3 (some .int), .fieldLink RX4 21 "Scriptorium" "desks" "[LScriptorium$Book;", .methodLink RX4 43 yX4_isDesk, .static yX4_isDesk, .code yX4_isDesk cX4_isDesk 1 (some .boolean)] ++ wsX40)
def wsX4_share : List Cond := .code yX4_share cX4_share 3 (some .int) :: ([.fieldLink RX4 21 "Scriptorium" "desks" "[LScriptorium$Book;", .methodLink RX4 43 yX4_isDesk, .static yX4_isDesk, .initialized RX4, .code yX4_isDesk cX4_isDesk 1 (some .boolean), .methodLink RX4 47 yX4_lay, .instanceMethod yX4_lay, .selects RX4 yX4_lay yX4_lay, .code yX4_lay cX4_lay 3 (some .int)] ++ wsX40)
def wsX4_clear : List Cond := .code yX4_clear cX4_clear 2 (some .int) :: ([.fieldLink RX4 14 "Scriptorium" "nothing" "LScriptorium$Book;", .methodLink RX4 47 yX4_lay, .instanceMethod yX4_lay, .selects RX4 yX4_lay yX4_lay, .initialized RX4, .code yX4_lay cX4_lay 3 (some .int), .fieldLink RX4 21 "Scriptorium" "desks" "[LScriptorium$Book;", .methodLink RX4 43 yX4_isDesk, .static yX4_isDesk, .code yX4_isDesk cX4_isDesk 1 (some .boolean)] ++ wsX40)
def wsX4_write_r1 : List Cond := [Cond.fieldLink RX4 21 "Scriptorium" "desks" "[LScriptorium$Book;", Cond.fieldLink RX4 58 "Scriptorium$Book" "script" "I", Cond.fieldLink RX4 69 "Scriptorium$Book" "values" "[J", Cond.methodLink RX4 43 yX4_isDesk, Cond.static yX4_isDesk, Cond.initialized RX4, Cond.code yX4_isDesk cX4_isDesk 1 (some .boolean), Cond.methodLink RX4 51 yX0_hasPictures, Cond.instanceMethod yX0_hasPictures, Cond.selects RX0 yX0_hasPictures yX0_hasPictures, Cond.initialized RX0, Cond.code yX0_hasPictures cX0_hasPictures 1 (some .boolean), Cond.fieldLink RX0 9 "Scriptorium$Book" "script" "I", Cond.methodLink RX4 55 yX0_isNoBook, Cond.instanceMethod yX0_isNoBook, Cond.selects RX0 yX0_isNoBook yX0_isNoBook, Cond.code yX0_isNoBook cX0_isNoBook 1 (some .boolean), Cond.methodLink RX4 62 yX0_hasPlace, Cond.instanceMethod yX0_hasPlace, Cond.selects RX0 yX0_hasPlace yX0_hasPlace, Cond.code yX0_hasPlace cX0_hasPlace 2 (some .boolean), Cond.fieldLink RX0 15 "Scriptorium$Book" "values" "[J", Cond.methodLink RX4 65 yX0_paint, Cond.instanceMethod yX0_paint]
def wsX4_write_r2 : List Cond := [Cond.selects RX0 yX0_paint yX0_paint, Cond.code yX0_paint cX0_paint 5 (some .boolean), Cond.fieldLink RX0 19 "Scriptorium$Book" "sorts" "[I", Cond.methodLink RX0 30 yX0_admits, Cond.instanceMethod yX0_admits, Cond.selects RX0 yX0_admits yX0_admits, Cond.code yX0_admits cX0_admits 2 (some .boolean), Cond.methodLink RX4 73 yX0_cut, Cond.instanceMethod yX0_cut, Cond.selects RX0 yX0_cut yX0_cut, Cond.code yX0_cut cX0_cut 3 (some .long)]
def wsX4_write : List Cond := .code yX4_write cX4_write 7 (some .int) :: ((wsX4_write_r1 ++ wsX4_write_r2) ++ wsX40 ++ wsX00)
def wsX4_isScribe : List Cond := .code yX4_isScribe cX4_isScribe 1 (some .boolean) :: ([])
def wsX4_isPossible : List Cond := .code yX4_isPossible cX4_isPossible 1 (some .boolean) :: ([.fieldLink RX4 164 "Scriptorium$Passage" "scribe" "I", .fieldLink RX4 167 "Scriptorium$Passage" "a" "I", .fieldLink RX4 170 "Scriptorium$Passage" "b" "I", .methodLink RX4 100 yX4_isScribe, .static yX4_isScribe, .initialized RX4, .code yX4_isScribe cX4_isScribe 1 (some .boolean), .methodLink RX4 43 yX4_isDesk, .static yX4_isDesk, .code yX4_isDesk cX4_isDesk 1 (some .boolean)] ++ wsX20)
def wsX4_hindranceBetween : List Cond := .code yX4_hindranceBetween cX4_hindranceBetween 2 (some .int) :: ([.fieldLink RX4 58 "Scriptorium$Book" "script" "I", .methodLink RX4 212 yX0_isAlike, .instanceMethod yX0_isAlike, .selects RX0 yX0_isAlike yX0_isAlike, .initialized RX0, .code yX0_isAlike cX0_isAlike 2 (some .boolean), .fieldLink RX0 9 "Scriptorium$Book" "script" "I", .methodLink RX0 23 yX0_isNoBook, .instanceMethod yX0_isNoBook, .selects RX0 yX0_isNoBook yX0_isNoBook, .code yX0_isNoBook cX0_isNoBook 1 (some .boolean), .methodLink RX0 27 yX0_hasPictures, .instanceMethod yX0_hasPictures, .selects RX0 yX0_hasPictures yX0_hasPictures, .code yX0_hasPictures cX0_hasPictures 1 (some .boolean)] ++ wsX00)
def wsX4_transcribe_r1 : List Cond := [Cond.fieldLink RX4 194 "Scriptorium$Passage" "i" "I", Cond.fieldLink RX4 173 "Scriptorium$Passage" "n" "I", Cond.fieldLink RX4 201 "Scriptorium$Passage" "j" "I", Cond.methodLink RX4 138 yX4_hindranceBetween, Cond.static yX4_hindranceBetween, Cond.initialized RX4, Cond.code yX4_hindranceBetween cX4_hindranceBetween 2 (some .int), Cond.fieldLink RX4 58 "Scriptorium$Book" "script" "I", Cond.methodLink RX4 212 yX0_isAlike, Cond.instanceMethod yX0_isAlike, Cond.selects RX0 yX0_isAlike yX0_isAlike, Cond.initialized RX0, Cond.code yX0_isAlike cX0_isAlike 2 (some .boolean), Cond.fieldLink RX0 9 "Scriptorium$Book" "script" "I", Cond.methodLink RX0 23 yX0_isNoBook, Cond.instanceMethod yX0_isNoBook, Cond.selects RX0 yX0_isNoBook yX0_isNoBook, Cond.code yX0_isNoBook cX0_isNoBook 1 (some .boolean), Cond.methodLink RX0 27 yX0_hasPictures, Cond.instanceMethod yX0_hasPictures, Cond.selects RX0 yX0_hasPictures yX0_hasPictures, Cond.code yX0_hasPictures cX0_hasPictures 1 (some .boolean), Cond.methodLink RX4 197 yX0_hasRun, Cond.instanceMethod yX0_hasRun]
def wsX4_transcribe_r2 : List Cond := [Cond.selects RX0 yX0_hasRun yX0_hasRun, Cond.code yX0_hasRun cX0_hasRun 3 (some .boolean), Cond.fieldLink RX0 15 "Scriptorium$Book" "values" "[J", Cond.methodLink RX4 204 yX0_fittingOf, Cond.instanceMethod yX0_fittingOf, Cond.selects RX0 yX0_fittingOf yX0_fittingOf, Cond.code yX0_fittingOf cX0_fittingOf 5 (some .int), Cond.fieldLink RX0 19 "Scriptorium$Book" "sorts" "[I", Cond.methodLink RX0 30 yX0_admits, Cond.instanceMethod yX0_admits, Cond.selects RX0 yX0_admits yX0_admits, Cond.code yX0_admits cX0_admits 2 (some .boolean), Cond.methodLink RX4 208 yX0_take, Cond.instanceMethod yX0_take, Cond.selects RX0 yX0_take yX0_take, Cond.code yX0_take cX0_take 5 none, Cond.methodLink RX0 36 arraycopyName, Cond.native arraycopyName, Cond.static arraycopyName, Cond.initialized "java/lang/System"]
def wsX4_transcribe : List Cond := .code yX4_transcribe cX4_transcribe 5 (some .int) :: ((wsX4_transcribe_r1 ++ wsX4_transcribe_r2) ++ wsX20 ++ wsX00)
def wsX4_signsCopied : List Cond := .code yX4_signsCopied cX4_signsCopied 1 (some .int) :: ([])
def wsX4_tallyOf : List Cond := .code yX4_tallyOf cX4_tallyOf 1 (some .int) :: ([])
def wsX4_perform_r1 : List Cond := [Cond.fieldLink RX4 27 "Scriptorium" "scribes" "[LScriptorium$Scribe;", Cond.fieldLink RX4 164 "Scriptorium$Passage" "scribe" "I", Cond.fieldLink RX4 103 "Scriptorium$Scribe" "ink" "I", Cond.fieldLink RX4 173 "Scriptorium$Passage" "n" "I", Cond.fieldLink RX4 21 "Scriptorium" "desks" "[LScriptorium$Book;", Cond.fieldLink RX4 167 "Scriptorium$Passage" "a" "I", Cond.fieldLink RX4 170 "Scriptorium$Passage" "b" "I", Cond.fieldLink RX4 39 "Scriptorium" "tallies" "[I", Cond.fieldLink RX4 35 "Scriptorium" "latest" "LScriptorium$Chronicle;", Cond.methodLink RX4 86 yX4_isPossible, Cond.static yX4_isPossible, Cond.initialized RX4, Cond.code yX4_isPossible cX4_isPossible 1 (some .boolean), Cond.methodLink RX4 100 yX4_isScribe, Cond.static yX4_isScribe, Cond.code yX4_isScribe cX4_isScribe 1 (some .boolean), Cond.methodLink RX4 43 yX4_isDesk, Cond.static yX4_isDesk, Cond.code yX4_isDesk cX4_isDesk 1 (some .boolean), Cond.methodLink RX4 176 yX4_transcribe, Cond.static yX4_transcribe, Cond.code yX4_transcribe cX4_transcribe 5 (some .int), Cond.fieldLink RX4 194 "Scriptorium$Passage" "i" "I", Cond.fieldLink RX4 201 "Scriptorium$Passage" "j" "I"]
def wsX4_perform_r2 : List Cond := [Cond.methodLink RX4 138 yX4_hindranceBetween, Cond.static yX4_hindranceBetween, Cond.code yX4_hindranceBetween cX4_hindranceBetween 2 (some .int), Cond.fieldLink RX4 58 "Scriptorium$Book" "script" "I", Cond.methodLink RX4 212 yX0_isAlike, Cond.instanceMethod yX0_isAlike, Cond.selects RX0 yX0_isAlike yX0_isAlike, Cond.initialized RX0, Cond.code yX0_isAlike cX0_isAlike 2 (some .boolean), Cond.fieldLink RX0 9 "Scriptorium$Book" "script" "I", Cond.methodLink RX0 23 yX0_isNoBook, Cond.instanceMethod yX0_isNoBook, Cond.selects RX0 yX0_isNoBook yX0_isNoBook, Cond.code yX0_isNoBook cX0_isNoBook 1 (some .boolean), Cond.methodLink RX0 27 yX0_hasPictures, Cond.instanceMethod yX0_hasPictures, Cond.selects RX0 yX0_hasPictures yX0_hasPictures, Cond.code yX0_hasPictures cX0_hasPictures 1 (some .boolean), Cond.methodLink RX4 197 yX0_hasRun, Cond.instanceMethod yX0_hasRun, Cond.selects RX0 yX0_hasRun yX0_hasRun, Cond.code yX0_hasRun cX0_hasRun 3 (some .boolean), Cond.fieldLink RX0 15 "Scriptorium$Book" "values" "[J", Cond.methodLink RX4 204 yX0_fittingOf]
def wsX4_perform_r3 : List Cond := [Cond.instanceMethod yX0_fittingOf, Cond.selects RX0 yX0_fittingOf yX0_fittingOf, Cond.code yX0_fittingOf cX0_fittingOf 5 (some .int), Cond.fieldLink RX0 19 "Scriptorium$Book" "sorts" "[I", Cond.methodLink RX0 30 yX0_admits, Cond.instanceMethod yX0_admits, Cond.selects RX0 yX0_admits yX0_admits, Cond.code yX0_admits cX0_admits 2 (some .boolean), Cond.methodLink RX4 208 yX0_take, Cond.instanceMethod yX0_take, Cond.selects RX0 yX0_take yX0_take, Cond.code yX0_take cX0_take 5 none, Cond.methodLink RX0 36 arraycopyName, Cond.native arraycopyName, Cond.static arraycopyName, Cond.initialized "java/lang/System", Cond.methodLink RX4 180 yX4_signsCopied, Cond.static yX4_signsCopied, Cond.code yX4_signsCopied cX4_signsCopied 1 (some .int), Cond.methodLink RX4 183 yX3_use, Cond.instanceMethod yX3_use, Cond.selects RX3 yX3_use yX3_use, Cond.initialized RX3, Cond.code yX3_use cX3_use 2 none]
def wsX4_perform_r4 : List Cond := [Cond.fieldLink RX3 9 "Scriptorium$Scribe" "ink" "I", Cond.fieldLink RX3 21 "Scriptorium$Scribe" "copied" "I", Cond.methodLink RX4 187 yX4_tallyOf, Cond.static yX4_tallyOf, Cond.code yX4_tallyOf cX4_tallyOf 1 (some .int), Cond.methodLink RX4 190 yX1_add, Cond.instanceMethod yX1_add, Cond.selects RX1 yX1_add yX1_add, Cond.initialized RX1, Cond.code yX1_add cX1_add 3 none, Cond.fieldLink RX1 9 "Scriptorium$Chronicle" "scribeNumbers" "[I", Cond.fieldLink RX1 28 "Scriptorium$Chronicle" "next" "I", Cond.fieldLink RX1 37 "Scriptorium$Passage" "scribe" "I", Cond.fieldLink RX1 15 "Scriptorium$Chronicle" "sources" "[I", Cond.fieldLink RX1 42 "Scriptorium$Passage" "a" "I", Cond.fieldLink RX1 18 "Scriptorium$Chronicle" "targets" "[I", Cond.fieldLink RX1 45 "Scriptorium$Passage" "b" "I", Cond.fieldLink RX1 21 "Scriptorium$Chronicle" "answers" "[I", Cond.fieldLink RX1 24 "Scriptorium$Chronicle" "held" "I", Cond.methodLink RX1 48 Lib.Math.min.name, Cond.static Lib.Math.min.name, Cond.initialized "java/lang/Math", Cond.code Lib.Math.min.name Lib.Math.min.code 2 (some .int)]
def wsX4_perform : List Cond := .code yX4_perform cX4_perform 5 (some .int) :: ((wsX4_perform_r1 ++ (wsX4_perform_r2 ++ (wsX4_perform_r3 ++ wsX4_perform_r4))) ++ wsX40 ++ wsX20 ++ wsX30 ++ wsX00 ++ wsX10)
def wsX4_copy_r1 : List Cond := [Cond.classLink RX4 77 RX2, Cond.instantiable RX2 6, Cond.initialized RX2, Cond.methodLink RX4 79 yX2_init, Cond.instanceMethod yX2_init, Cond.code yX2_init cX2_init 7 none, Cond.methodLink RX2 1 objectInit, Cond.instanceMethod objectInit, Cond.code objectInit ⟨#[0xb1]⟩ 1 none, Cond.fieldLink RX2 7 "Scriptorium$Passage" "scribe" "I", Cond.fieldLink RX2 13 "Scriptorium$Passage" "a" "I", Cond.fieldLink RX2 16 "Scriptorium$Passage" "i" "I", Cond.fieldLink RX2 19 "Scriptorium$Passage" "b" "I", Cond.fieldLink RX2 22 "Scriptorium$Passage" "j" "I", Cond.fieldLink RX2 25 "Scriptorium$Passage" "n" "I", Cond.methodLink RX4 82 yX4_perform, Cond.instanceMethod yX4_perform, Cond.selects RX4 yX4_perform yX4_perform, Cond.initialized RX4, Cond.code yX4_perform cX4_perform 5 (some .int), Cond.fieldLink RX4 27 "Scriptorium" "scribes" "[LScriptorium$Scribe;", Cond.fieldLink RX4 164 "Scriptorium$Passage" "scribe" "I", Cond.fieldLink RX4 103 "Scriptorium$Scribe" "ink" "I", Cond.fieldLink RX4 173 "Scriptorium$Passage" "n" "I"]
def wsX4_copy_r2 : List Cond := [Cond.fieldLink RX4 21 "Scriptorium" "desks" "[LScriptorium$Book;", Cond.fieldLink RX4 167 "Scriptorium$Passage" "a" "I", Cond.fieldLink RX4 170 "Scriptorium$Passage" "b" "I", Cond.fieldLink RX4 39 "Scriptorium" "tallies" "[I", Cond.fieldLink RX4 35 "Scriptorium" "latest" "LScriptorium$Chronicle;", Cond.methodLink RX4 86 yX4_isPossible, Cond.static yX4_isPossible, Cond.code yX4_isPossible cX4_isPossible 1 (some .boolean), Cond.methodLink RX4 100 yX4_isScribe, Cond.static yX4_isScribe, Cond.code yX4_isScribe cX4_isScribe 1 (some .boolean), Cond.methodLink RX4 43 yX4_isDesk, Cond.static yX4_isDesk, Cond.code yX4_isDesk cX4_isDesk 1 (some .boolean), Cond.methodLink RX4 176 yX4_transcribe, Cond.static yX4_transcribe, Cond.code yX4_transcribe cX4_transcribe 5 (some .int), Cond.fieldLink RX4 194 "Scriptorium$Passage" "i" "I", Cond.fieldLink RX4 201 "Scriptorium$Passage" "j" "I", Cond.methodLink RX4 138 yX4_hindranceBetween, Cond.static yX4_hindranceBetween, Cond.code yX4_hindranceBetween cX4_hindranceBetween 2 (some .int), Cond.fieldLink RX4 58 "Scriptorium$Book" "script" "I", Cond.methodLink RX4 212 yX0_isAlike]
def wsX4_copy_r3 : List Cond := [Cond.instanceMethod yX0_isAlike, Cond.selects RX0 yX0_isAlike yX0_isAlike, Cond.initialized RX0, Cond.code yX0_isAlike cX0_isAlike 2 (some .boolean), Cond.fieldLink RX0 9 "Scriptorium$Book" "script" "I", Cond.methodLink RX0 23 yX0_isNoBook, Cond.instanceMethod yX0_isNoBook, Cond.selects RX0 yX0_isNoBook yX0_isNoBook, Cond.code yX0_isNoBook cX0_isNoBook 1 (some .boolean), Cond.methodLink RX0 27 yX0_hasPictures, Cond.instanceMethod yX0_hasPictures, Cond.selects RX0 yX0_hasPictures yX0_hasPictures, Cond.code yX0_hasPictures cX0_hasPictures 1 (some .boolean), Cond.methodLink RX4 197 yX0_hasRun, Cond.instanceMethod yX0_hasRun, Cond.selects RX0 yX0_hasRun yX0_hasRun, Cond.code yX0_hasRun cX0_hasRun 3 (some .boolean), Cond.fieldLink RX0 15 "Scriptorium$Book" "values" "[J", Cond.methodLink RX4 204 yX0_fittingOf, Cond.instanceMethod yX0_fittingOf, Cond.selects RX0 yX0_fittingOf yX0_fittingOf, Cond.code yX0_fittingOf cX0_fittingOf 5 (some .int), Cond.fieldLink RX0 19 "Scriptorium$Book" "sorts" "[I", Cond.methodLink RX0 30 yX0_admits]
def wsX4_copy_r4 : List Cond := [Cond.instanceMethod yX0_admits, Cond.selects RX0 yX0_admits yX0_admits, Cond.code yX0_admits cX0_admits 2 (some .boolean), Cond.methodLink RX4 208 yX0_take, Cond.instanceMethod yX0_take, Cond.selects RX0 yX0_take yX0_take, Cond.code yX0_take cX0_take 5 none, Cond.methodLink RX0 36 arraycopyName, Cond.native arraycopyName, Cond.static arraycopyName, Cond.initialized "java/lang/System", Cond.methodLink RX4 180 yX4_signsCopied, Cond.static yX4_signsCopied, Cond.code yX4_signsCopied cX4_signsCopied 1 (some .int), Cond.methodLink RX4 183 yX3_use, Cond.instanceMethod yX3_use, Cond.selects RX3 yX3_use yX3_use, Cond.initialized RX3, Cond.code yX3_use cX3_use 2 none, Cond.fieldLink RX3 9 "Scriptorium$Scribe" "ink" "I", Cond.fieldLink RX3 21 "Scriptorium$Scribe" "copied" "I", Cond.methodLink RX4 187 yX4_tallyOf, Cond.static yX4_tallyOf, Cond.code yX4_tallyOf cX4_tallyOf 1 (some .int)]
def wsX4_copy_r5 : List Cond := [Cond.methodLink RX4 190 yX1_add, Cond.instanceMethod yX1_add, Cond.selects RX1 yX1_add yX1_add, Cond.initialized RX1, Cond.code yX1_add cX1_add 3 none, Cond.fieldLink RX1 9 "Scriptorium$Chronicle" "scribeNumbers" "[I", Cond.fieldLink RX1 28 "Scriptorium$Chronicle" "next" "I", Cond.fieldLink RX1 37 "Scriptorium$Passage" "scribe" "I", Cond.fieldLink RX1 15 "Scriptorium$Chronicle" "sources" "[I", Cond.fieldLink RX1 42 "Scriptorium$Passage" "a" "I", Cond.fieldLink RX1 18 "Scriptorium$Chronicle" "targets" "[I", Cond.fieldLink RX1 45 "Scriptorium$Passage" "b" "I", Cond.fieldLink RX1 21 "Scriptorium$Chronicle" "answers" "[I", Cond.fieldLink RX1 24 "Scriptorium$Chronicle" "held" "I", Cond.methodLink RX1 48 Lib.Math.min.name, Cond.static Lib.Math.min.name, Cond.initialized "java/lang/Math", Cond.code Lib.Math.min.name Lib.Math.min.code 2 (some .int)]
def wsX4_copy : List Cond := .code yX4_copy cX4_copy 7 (some .int) :: ((wsX4_copy_r1 ++ (wsX4_copy_r2 ++ (wsX4_copy_r3 ++ (wsX4_copy_r4 ++ wsX4_copy_r5)))) ++ wsX20 ++ wsX40 ++ wsX30 ++ wsX00 ++ wsX10)
def wsX4_order_r1 : List Cond := [Cond.classLink RX4 77 RX2, Cond.instantiable RX2 6, Cond.initialized RX2, Cond.fieldLink RX4 27 "Scriptorium" "scribes" "[LScriptorium$Scribe;", Cond.methodLink RX4 79 yX2_init, Cond.instanceMethod yX2_init, Cond.code yX2_init cX2_init 7 none, Cond.methodLink RX2 1 objectInit, Cond.instanceMethod objectInit, Cond.code objectInit ⟨#[0xb1]⟩ 1 none, Cond.fieldLink RX2 7 "Scriptorium$Passage" "scribe" "I", Cond.fieldLink RX2 13 "Scriptorium$Passage" "a" "I", Cond.fieldLink RX2 16 "Scriptorium$Passage" "i" "I", Cond.fieldLink RX2 19 "Scriptorium$Passage" "b" "I", Cond.fieldLink RX2 22 "Scriptorium$Passage" "j" "I", Cond.fieldLink RX2 25 "Scriptorium$Passage" "n" "I", Cond.methodLink RX4 86 yX4_isPossible, Cond.static yX4_isPossible, Cond.initialized RX4, Cond.code yX4_isPossible cX4_isPossible 1 (some .boolean), Cond.fieldLink RX4 164 "Scriptorium$Passage" "scribe" "I", Cond.fieldLink RX4 167 "Scriptorium$Passage" "a" "I", Cond.fieldLink RX4 170 "Scriptorium$Passage" "b" "I", Cond.methodLink RX4 100 yX4_isScribe]
def wsX4_order_r2 : List Cond := [Cond.static yX4_isScribe, Cond.code yX4_isScribe cX4_isScribe 1 (some .boolean), Cond.methodLink RX4 43 yX4_isDesk, Cond.static yX4_isDesk, Cond.code yX4_isDesk cX4_isDesk 1 (some .boolean), Cond.methodLink RX4 90 yX3_addOrder, Cond.instanceMethod yX3_addOrder, Cond.selects RX3 yX3_addOrder yX3_addOrder, Cond.initialized RX3, Cond.code yX3_addOrder cX3_addOrder 2 (some .int), Cond.fieldLink RX3 24 "Scriptorium$Scribe" "waiting" "I", Cond.fieldLink RX3 17 "Scriptorium$Scribe" "orders" "[LScriptorium$Passage;"]
def wsX4_order : List Cond := .code yX4_order cX4_order 8 (some .int) :: ((wsX4_order_r1 ++ wsX4_order_r2) ++ wsX20 ++ wsX40 ++ wsX30)
def wsX4_day_r1 : List Cond := [Cond.fieldLink RX4 27 "Scriptorium" "scribes" "[LScriptorium$Scribe;", Cond.methodLink RX4 93 yX3_firstOrder, Cond.instanceMethod yX3_firstOrder, Cond.selects RX3 yX3_firstOrder yX3_firstOrder, Cond.initialized RX3, Cond.code yX3_firstOrder cX3_firstOrder 1 (some (.object "Scriptorium$Passage")), Cond.fieldLink RX3 24 "Scriptorium$Scribe" "waiting" "I", Cond.fieldLink RX3 17 "Scriptorium$Scribe" "orders" "[LScriptorium$Passage;", Cond.methodLink RX4 82 yX4_perform, Cond.instanceMethod yX4_perform, Cond.selects RX4 yX4_perform yX4_perform, Cond.initialized RX4, Cond.code yX4_perform cX4_perform 5 (some .int), Cond.fieldLink RX4 164 "Scriptorium$Passage" "scribe" "I", Cond.fieldLink RX4 103 "Scriptorium$Scribe" "ink" "I", Cond.fieldLink RX4 173 "Scriptorium$Passage" "n" "I", Cond.fieldLink RX4 21 "Scriptorium" "desks" "[LScriptorium$Book;", Cond.fieldLink RX4 167 "Scriptorium$Passage" "a" "I", Cond.fieldLink RX4 170 "Scriptorium$Passage" "b" "I", Cond.fieldLink RX4 39 "Scriptorium" "tallies" "[I", Cond.fieldLink RX4 35 "Scriptorium" "latest" "LScriptorium$Chronicle;", Cond.methodLink RX4 86 yX4_isPossible, Cond.static yX4_isPossible, Cond.code yX4_isPossible cX4_isPossible 1 (some .boolean)]
def wsX4_day_r2 : List Cond := [Cond.methodLink RX4 100 yX4_isScribe, Cond.static yX4_isScribe, Cond.code yX4_isScribe cX4_isScribe 1 (some .boolean), Cond.methodLink RX4 43 yX4_isDesk, Cond.static yX4_isDesk, Cond.code yX4_isDesk cX4_isDesk 1 (some .boolean), Cond.methodLink RX4 176 yX4_transcribe, Cond.static yX4_transcribe, Cond.code yX4_transcribe cX4_transcribe 5 (some .int), Cond.fieldLink RX4 194 "Scriptorium$Passage" "i" "I", Cond.fieldLink RX4 201 "Scriptorium$Passage" "j" "I", Cond.methodLink RX4 138 yX4_hindranceBetween, Cond.static yX4_hindranceBetween, Cond.code yX4_hindranceBetween cX4_hindranceBetween 2 (some .int), Cond.fieldLink RX4 58 "Scriptorium$Book" "script" "I", Cond.methodLink RX4 212 yX0_isAlike, Cond.instanceMethod yX0_isAlike, Cond.selects RX0 yX0_isAlike yX0_isAlike, Cond.initialized RX0, Cond.code yX0_isAlike cX0_isAlike 2 (some .boolean), Cond.fieldLink RX0 9 "Scriptorium$Book" "script" "I", Cond.methodLink RX0 23 yX0_isNoBook, Cond.instanceMethod yX0_isNoBook, Cond.selects RX0 yX0_isNoBook yX0_isNoBook]
def wsX4_day_r3 : List Cond := [Cond.code yX0_isNoBook cX0_isNoBook 1 (some .boolean), Cond.methodLink RX0 27 yX0_hasPictures, Cond.instanceMethod yX0_hasPictures, Cond.selects RX0 yX0_hasPictures yX0_hasPictures, Cond.code yX0_hasPictures cX0_hasPictures 1 (some .boolean), Cond.methodLink RX4 197 yX0_hasRun, Cond.instanceMethod yX0_hasRun, Cond.selects RX0 yX0_hasRun yX0_hasRun, Cond.code yX0_hasRun cX0_hasRun 3 (some .boolean), Cond.fieldLink RX0 15 "Scriptorium$Book" "values" "[J", Cond.methodLink RX4 204 yX0_fittingOf, Cond.instanceMethod yX0_fittingOf, Cond.selects RX0 yX0_fittingOf yX0_fittingOf, Cond.code yX0_fittingOf cX0_fittingOf 5 (some .int), Cond.fieldLink RX0 19 "Scriptorium$Book" "sorts" "[I", Cond.methodLink RX0 30 yX0_admits, Cond.instanceMethod yX0_admits, Cond.selects RX0 yX0_admits yX0_admits, Cond.code yX0_admits cX0_admits 2 (some .boolean), Cond.methodLink RX4 208 yX0_take, Cond.instanceMethod yX0_take, Cond.selects RX0 yX0_take yX0_take, Cond.code yX0_take cX0_take 5 none, Cond.methodLink RX0 36 arraycopyName]
def wsX4_day_r4 : List Cond := [Cond.native arraycopyName, Cond.static arraycopyName, Cond.initialized "java/lang/System", Cond.methodLink RX4 180 yX4_signsCopied, Cond.static yX4_signsCopied, Cond.code yX4_signsCopied cX4_signsCopied 1 (some .int), Cond.methodLink RX4 183 yX3_use, Cond.instanceMethod yX3_use, Cond.selects RX3 yX3_use yX3_use, Cond.code yX3_use cX3_use 2 none, Cond.fieldLink RX3 9 "Scriptorium$Scribe" "ink" "I", Cond.fieldLink RX3 21 "Scriptorium$Scribe" "copied" "I", Cond.methodLink RX4 187 yX4_tallyOf, Cond.static yX4_tallyOf, Cond.code yX4_tallyOf cX4_tallyOf 1 (some .int), Cond.methodLink RX4 190 yX1_add, Cond.instanceMethod yX1_add, Cond.selects RX1 yX1_add yX1_add, Cond.initialized RX1, Cond.code yX1_add cX1_add 3 none, Cond.fieldLink RX1 9 "Scriptorium$Chronicle" "scribeNumbers" "[I", Cond.fieldLink RX1 28 "Scriptorium$Chronicle" "next" "I", Cond.fieldLink RX1 37 "Scriptorium$Passage" "scribe" "I", Cond.fieldLink RX1 15 "Scriptorium$Chronicle" "sources" "[I"]
def wsX4_day_r5 : List Cond := [Cond.fieldLink RX1 42 "Scriptorium$Passage" "a" "I", Cond.fieldLink RX1 18 "Scriptorium$Chronicle" "targets" "[I", Cond.fieldLink RX1 45 "Scriptorium$Passage" "b" "I", Cond.fieldLink RX1 21 "Scriptorium$Chronicle" "answers" "[I", Cond.fieldLink RX1 24 "Scriptorium$Chronicle" "held" "I", Cond.methodLink RX1 48 Lib.Math.min.name, Cond.static Lib.Math.min.name, Cond.initialized "java/lang/Math", Cond.code Lib.Math.min.name Lib.Math.min.code 2 (some .int), Cond.methodLink RX4 97 yX3_dropFirstOrder, Cond.instanceMethod yX3_dropFirstOrder, Cond.selects RX3 yX3_dropFirstOrder yX3_dropFirstOrder, Cond.code yX3_dropFirstOrder cX3_dropFirstOrder 2 none]
def wsX4_day : List Cond := .code yX4_day cX4_day 4 (some .int) :: ((wsX4_day_r1 ++ (wsX4_day_r2 ++ (wsX4_day_r3 ++ (wsX4_day_r4 ++ wsX4_day_r5)))) ++ wsX40 ++ wsX30 ++ wsX20 ++ wsX00 ++ wsX10)
def wsX4_fill : List Cond := .code yX4_fill cX4_fill 3 (some .int) :: ([.fieldLink RX4 27 "Scriptorium" "scribes" "[LScriptorium$Scribe;", .fieldLink RX4 103 "Scriptorium$Scribe" "ink" "I", .methodLink RX4 106 Lib.Math.min.name, .static Lib.Math.min.name, .initialized "java/lang/Math", .code Lib.Math.min.name Lib.Math.min.code 2 (some .int), .methodLink RX4 100 yX4_isScribe, .static yX4_isScribe, .initialized RX4, .code yX4_isScribe cX4_isScribe 1 (some .boolean)] ++ wsX40 ++ wsX30)
def wsX4_scribe : List Cond := .code yX4_scribe cX4_scribe 3 (some .int) :: ([.fieldLink RX4 27 "Scriptorium" "scribes" "[LScriptorium$Scribe;", .fieldLink RX4 103 "Scriptorium$Scribe" "ink" "I", .fieldLink RX4 112 "Scriptorium$Scribe" "waiting" "I", .fieldLink RX4 115 "Scriptorium$Scribe" "copied" "I", .methodLink RX4 100 yX4_isScribe, .static yX4_isScribe, .initialized RX4, .code yX4_isScribe cX4_isScribe 1 (some .boolean)] ++ wsX40 ++ wsX30)
def wsX4_sign_r1 : List Cond := [Cond.classLink RX4 118 "java/lang/IllegalStateException", Cond.initialized "java/lang/IllegalStateException", Cond.classLink RX4 125 "java/lang/IndexOutOfBoundsException", Cond.initialized "java/lang/IndexOutOfBoundsException", Cond.fieldLink RX4 21 "Scriptorium" "desks" "[LScriptorium$Book;", Cond.methodLink RX4 43 yX4_isDesk, Cond.static yX4_isDesk, Cond.initialized RX4, Cond.code yX4_isDesk cX4_isDesk 1 (some .boolean), Cond.methodLink RX4 55 yX0_isNoBook, Cond.instanceMethod yX0_isNoBook, Cond.selects RX0 yX0_isNoBook yX0_isNoBook, Cond.initialized RX0, Cond.code yX0_isNoBook cX0_isNoBook 1 (some .boolean), Cond.fieldLink RX0 9 "Scriptorium$Book" "script" "I", Cond.methodLink RX4 62 yX0_hasPlace, Cond.instanceMethod yX0_hasPlace, Cond.selects RX0 yX0_hasPlace yX0_hasPlace, Cond.code yX0_hasPlace cX0_hasPlace 2 (some .boolean), Cond.fieldLink RX0 15 "Scriptorium$Book" "values" "[J", Cond.methodLink RX4 130 yX0_signAt, Cond.instanceMethod yX0_signAt, Cond.selects RX0 yX0_signAt yX0_signAt, Cond.code yX0_signAt cX0_signAt 2 (some .long)]
def wsX4_sign_r2 : List Cond := [Cond.constantLong RX0 34 (4), Cond.fieldLink RX0 19 "Scriptorium$Book" "sorts" "[I", Cond.methodLink RX0 27 yX0_hasPictures, Cond.instanceMethod yX0_hasPictures, Cond.selects RX0 yX0_hasPictures yX0_hasPictures, Cond.code yX0_hasPictures cX0_hasPictures 1 (some .boolean)]
def wsX4_sign : List Cond := .code yX4_sign cX4_sign 3 (some .long) :: ((wsX4_sign_r1 ++ wsX4_sign_r2) ++ wsX40 ++ wsX00 ++ (vx_atS RX4 122 "java/lang/IllegalStateException" ["java/lang/RuntimeException", "java/lang/Exception"]).filter goodWord ++ (vx_atS RX4 129 "java/lang/IndexOutOfBoundsException" ["java/lang/RuntimeException", "java/lang/Exception"]).filter goodWord)
def wsX4_book : List Cond := .code yX4_book cX4_book 4 (some .int) :: ([.fieldLink RX4 21 "Scriptorium" "desks" "[LScriptorium$Book;", .fieldLink RX4 58 "Scriptorium$Book" "script" "I", .methodLink RX4 43 yX4_isDesk, .static yX4_isDesk, .initialized RX4, .code yX4_isDesk cX4_isDesk 1 (some .boolean), .methodLink RX4 55 yX0_isNoBook, .instanceMethod yX0_isNoBook, .selects RX0 yX0_isNoBook yX0_isNoBook, .initialized RX0, .code yX0_isNoBook cX0_isNoBook 1 (some .boolean), .fieldLink RX0 9 "Scriptorium$Book" "script" "I", .methodLink RX4 134 yX0_length, .instanceMethod yX0_length, .selects RX0 yX0_length yX0_length, .code yX0_length cX0_length 1 (some .int), .fieldLink RX0 15 "Scriptorium$Book" "values" "[J"] ++ wsX40 ++ wsX00)
def wsX4_firstDifference : List Cond := .code yX4_firstDifference cX4_firstDifference 4 (some .int) :: ([.methodLink RX4 106 Lib.Math.min.name, .static Lib.Math.min.name, .initialized "java/lang/Math", .code Lib.Math.min.name Lib.Math.min.code 2 (some .int), .fieldLink RX4 69 "Scriptorium$Book" "values" "[J", .fieldLink RX4 216 "Scriptorium$Book" "sorts" "[I", .methodLink RX4 134 yX0_length, .instanceMethod yX0_length, .selects RX0 yX0_length yX0_length, .initialized RX0, .code yX0_length cX0_length 1 (some .int), .fieldLink RX0 15 "Scriptorium$Book" "values" "[J"] ++ wsX00)
def wsX4_differ_r1 : List Cond := [Cond.fieldLink RX4 21 "Scriptorium" "desks" "[LScriptorium$Book;", Cond.methodLink RX4 43 yX4_isDesk, Cond.static yX4_isDesk, Cond.initialized RX4, Cond.code yX4_isDesk cX4_isDesk 1 (some .boolean), Cond.methodLink RX4 138 yX4_hindranceBetween, Cond.static yX4_hindranceBetween, Cond.code yX4_hindranceBetween cX4_hindranceBetween 2 (some .int), Cond.fieldLink RX4 58 "Scriptorium$Book" "script" "I", Cond.methodLink RX4 212 yX0_isAlike, Cond.instanceMethod yX0_isAlike, Cond.selects RX0 yX0_isAlike yX0_isAlike, Cond.initialized RX0, Cond.code yX0_isAlike cX0_isAlike 2 (some .boolean), Cond.fieldLink RX0 9 "Scriptorium$Book" "script" "I", Cond.methodLink RX0 23 yX0_isNoBook, Cond.instanceMethod yX0_isNoBook, Cond.selects RX0 yX0_isNoBook yX0_isNoBook, Cond.code yX0_isNoBook cX0_isNoBook 1 (some .boolean), Cond.methodLink RX0 27 yX0_hasPictures, Cond.instanceMethod yX0_hasPictures, Cond.selects RX0 yX0_hasPictures yX0_hasPictures, Cond.code yX0_hasPictures cX0_hasPictures 1 (some .boolean), Cond.methodLink RX4 142 yX4_firstDifference]
def wsX4_differ_r2 : List Cond := [Cond.static yX4_firstDifference, Cond.code yX4_firstDifference cX4_firstDifference 4 (some .int), Cond.methodLink RX4 106 Lib.Math.min.name, Cond.static Lib.Math.min.name, Cond.initialized "java/lang/Math", Cond.code Lib.Math.min.name Lib.Math.min.code 2 (some .int), Cond.fieldLink RX4 69 "Scriptorium$Book" "values" "[J", Cond.fieldLink RX4 216 "Scriptorium$Book" "sorts" "[I", Cond.methodLink RX4 134 yX0_length, Cond.instanceMethod yX0_length, Cond.selects RX0 yX0_length yX0_length, Cond.code yX0_length cX0_length 1 (some .int), Cond.fieldLink RX0 15 "Scriptorium$Book" "values" "[J"]
def wsX4_differ : List Cond := .code yX4_differ cX4_differ 4 (some .int) :: ((wsX4_differ_r1 ++ wsX4_differ_r2) ++ wsX40 ++ wsX00)
def wsX4_chronicle : List Cond := .code yX4_chronicle cX4_chronicle 4 (some .int) :: ([.fieldLink RX4 35 "Scriptorium" "latest" "LScriptorium$Chronicle;", .fieldLink RX4 152 "Scriptorium$Chronicle" "scribeNumbers" "[I", .fieldLink RX4 155 "Scriptorium$Chronicle" "sources" "[I", .fieldLink RX4 158 "Scriptorium$Chronicle" "targets" "[I", .fieldLink RX4 161 "Scriptorium$Chronicle" "answers" "[I", .methodLink RX4 145 yX1_has, .instanceMethod yX1_has, .selects RX1 yX1_has yX1_has, .initialized RX1, .code yX1_has cX1_has 2 (some .boolean), .fieldLink RX1 24 "Scriptorium$Chronicle" "held" "I", .methodLink RX4 148 yX1_rowOf, .instanceMethod yX1_rowOf, .selects RX1 yX1_rowOf yX1_rowOf, .code yX1_rowOf cX1_rowOf 2 (some .int), .fieldLink RX1 28 "Scriptorium$Chronicle" "next" "I", .methodLink RX1 31 yJ9_floorMod_7cf53, .static yJ9_floorMod_7cf53, .initialized RJ9, .code yJ9_floorMod_7cf53 cJ9_floorMod_7cf53 3 (some .int)] ++ wsX40 ++ wsX10)
def wsX4_count : List Cond := .code yX4_count cX4_count 2 (some .int) :: ([.fieldLink RX4 39 "Scriptorium" "tallies" "[I"] ++ wsX40)
def wsX5_init : List Cond := .code yX5_init cX5_init 1 none :: ([.methodLink RX5 1 objectInit, .instanceMethod objectInit, .code objectInit ⟨#[0xb1]⟩ 1 none, .arrayClass .int, .fieldLink RX5 7 "ScriptoriumModel" "desk" "[I", .fieldLink RX5 13 "ScriptoriumModel" "script" "[I", .fieldLink RX5 16 "ScriptoriumModel" "size" "[I", .arrayClass .long, .fieldLink RX5 19 "ScriptoriumModel" "sign" "[J", .fieldLink RX5 23 "ScriptoriumModel" "ink" "[I", .fieldLink RX5 26 "ScriptoriumModel" "copied" "[I", .fieldLink RX5 29 "ScriptoriumModel" "wait" "[I", .fieldLink RX5 32 "ScriptoriumModel" "waits" "[I", .fieldLink RX5 35 "ScriptoriumModel" "chronicle" "[I", .fieldLink RX5 38 "ScriptoriumModel" "counts" "[I"] ++ wsX50)
def wsX5_thrown : List Cond := .code yX5_thrown cX5_thrown 1 (some .int) :: ([.fieldLink RX5 41 "ScriptoriumModel" "thrown" "I"] ++ wsX50)
def wsX5_isDesk : List Cond := .code yX5_isDesk cX5_isDesk 1 (some .boolean) :: ([])
def wsX5_isScribe : List Cond := .code yX5_isScribe cX5_isScribe 1 (some .boolean) :: ([])
def wsX5_isUsed : List Cond := .code yX5_isUsed cX5_isUsed 4 (some .boolean) :: ([.fieldLink RX5 7 "ScriptoriumModel" "desk" "[I"] ++ wsX50)
def wsX5_bind : List Cond := .code yX5_bind cX5_bind 6 (some .int) :: ([.fieldLink RX5 41 "ScriptoriumModel" "thrown" "I", .fieldLink RX5 7 "ScriptoriumModel" "desk" "[I", .fieldLink RX5 13 "ScriptoriumModel" "script" "[I", .fieldLink RX5 16 "ScriptoriumModel" "size" "[I", .fieldLink RX5 19 "ScriptoriumModel" "sign" "[J", .fieldLink RX5 38 "ScriptoriumModel" "counts" "[I", .methodLink RX5 45 yX5_isDesk, .static yX5_isDesk, .initialized RX5, .code yX5_isDesk cX5_isDesk 1 (some .boolean), .methodLink RX5 49 yX5_isUsed, .instanceMethod yX5_isUsed, .selects RX5 yX5_isUsed yX5_isUsed, .code yX5_isUsed cX5_isUsed 4 (some .boolean)] ++ wsX50)
def wsX5_stone : List Cond := .code yX5_stone cX5_stone 2 (some .int) :: ([.fieldLink RX5 41 "ScriptoriumModel" "thrown" "I", .fieldLink RX5 7 "ScriptoriumModel" "desk" "[I", .methodLink RX5 45 yX5_isDesk, .static yX5_isDesk, .initialized RX5, .code yX5_isDesk cX5_isDesk 1 (some .boolean)] ++ wsX50)
def wsX5_share : List Cond := .code yX5_share cX5_share 3 (some .int) :: ([.fieldLink RX5 41 "ScriptoriumModel" "thrown" "I", .fieldLink RX5 7 "ScriptoriumModel" "desk" "[I", .methodLink RX5 45 yX5_isDesk, .static yX5_isDesk, .initialized RX5, .code yX5_isDesk cX5_isDesk 1 (some .boolean)] ++ wsX50)
def wsX5_clear : List Cond := .code yX5_clear cX5_clear 2 (some .int) :: ([.fieldLink RX5 41 "ScriptoriumModel" "thrown" "I", .fieldLink RX5 7 "ScriptoriumModel" "desk" "[I", .methodLink RX5 45 yX5_isDesk, .static yX5_isDesk, .initialized RX5, .code yX5_isDesk cX5_isDesk 1 (some .boolean)] ++ wsX50)
def wsX5_isPictures : List Cond := .code yX5_isPictures cX5_isPictures 2 (some .boolean) :: ([.fieldLink RX5 13 "ScriptoriumModel" "script" "[I"] ++ wsX50)
def wsX5_may : List Cond := .code yX5_may cX5_may 5 (some .boolean) :: ([.constantLong RX5 53 (3), .fieldLink RX5 13 "ScriptoriumModel" "script" "[I"] ++ wsX50)
def wsX5_cut : List Cond := .code yX5_cut cX5_cut 3 (some .long) :: ([.constantLong RX5 55 (65535)])
def wsX5_write : List Cond := .code yX5_write cX5_write 9 (some .int) :: ([.fieldLink RX5 41 "ScriptoriumModel" "thrown" "I", .fieldLink RX5 7 "ScriptoriumModel" "desk" "[I", .fieldLink RX5 16 "ScriptoriumModel" "size" "[I", .fieldLink RX5 13 "ScriptoriumModel" "script" "[I", .constantLong RX5 64 (4), .fieldLink RX5 19 "ScriptoriumModel" "sign" "[J", .methodLink RX5 45 yX5_isDesk, .static yX5_isDesk, .initialized RX5, .code yX5_isDesk cX5_isDesk 1 (some .boolean), .methodLink RX5 57 yX5_isPictures, .instanceMethod yX5_isPictures, .selects RX5 yX5_isPictures yX5_isPictures, .code yX5_isPictures cX5_isPictures 2 (some .boolean), .methodLink RX5 60 yX5_cut, .static yX5_cut, .code yX5_cut cX5_cut 3 (some .long), .constantLong RX5 55 (65535), .methodLink RX5 66 yX5_may, .instanceMethod yX5_may, .selects RX5 yX5_may yX5_may, .code yX5_may cX5_may 5 (some .boolean), .constantLong RX5 53 (3)] ++ wsX50)
def wsX5_unlike : List Cond := .code yX5_unlike cX5_unlike 5 (some .int) :: ([.fieldLink RX5 7 "ScriptoriumModel" "desk" "[I", .fieldLink RX5 13 "ScriptoriumModel" "script" "[I"] ++ wsX50)
def wsX5_passes : List Cond := .code yX5_passes cX5_passes 13 (some .int) :: ([.fieldLink RX5 7 "ScriptoriumModel" "desk" "[I", .fieldLink RX5 16 "ScriptoriumModel" "size" "[I", .fieldLink RX5 19 "ScriptoriumModel" "sign" "[J", .methodLink RX5 70 yX5_unlike, .instanceMethod yX5_unlike, .selects RX5 yX5_unlike yX5_unlike, .initialized RX5, .code yX5_unlike cX5_unlike 5 (some .int), .fieldLink RX5 13 "ScriptoriumModel" "script" "[I", .methodLink RX5 57 yX5_isPictures, .instanceMethod yX5_isPictures, .selects RX5 yX5_isPictures yX5_isPictures, .code yX5_isPictures cX5_isPictures 2 (some .boolean), .methodLink RX5 66 yX5_may, .instanceMethod yX5_may, .selects RX5 yX5_may yX5_may, .code yX5_may cX5_may 5 (some .boolean), .constantLong RX5 53 (3)] ++ wsX50)
def wsX5_copy_r1 : List Cond := [Cond.fieldLink RX5 41 "ScriptoriumModel" "thrown" "I", Cond.fieldLink RX5 23 "ScriptoriumModel" "ink" "[I", Cond.fieldLink RX5 26 "ScriptoriumModel" "copied" "[I", Cond.fieldLink RX5 38 "ScriptoriumModel" "counts" "[I", Cond.fieldLink RX5 35 "ScriptoriumModel" "chronicle" "[I", Cond.methodLink RX5 74 yX5_isScribe, Cond.static yX5_isScribe, Cond.initialized RX5, Cond.code yX5_isScribe cX5_isScribe 1 (some .boolean), Cond.methodLink RX5 45 yX5_isDesk, Cond.static yX5_isDesk, Cond.code yX5_isDesk cX5_isDesk 1 (some .boolean), Cond.methodLink RX5 77 yX5_passes, Cond.instanceMethod yX5_passes, Cond.selects RX5 yX5_passes yX5_passes, Cond.code yX5_passes cX5_passes 13 (some .int), Cond.fieldLink RX5 7 "ScriptoriumModel" "desk" "[I", Cond.fieldLink RX5 16 "ScriptoriumModel" "size" "[I", Cond.fieldLink RX5 19 "ScriptoriumModel" "sign" "[J", Cond.methodLink RX5 70 yX5_unlike, Cond.instanceMethod yX5_unlike, Cond.selects RX5 yX5_unlike yX5_unlike, Cond.code yX5_unlike cX5_unlike 5 (some .int), Cond.fieldLink RX5 13 "ScriptoriumModel" "script" "[I"]
def wsX5_copy_r2 : List Cond := [Cond.methodLink RX5 57 yX5_isPictures, Cond.instanceMethod yX5_isPictures, Cond.selects RX5 yX5_isPictures yX5_isPictures, Cond.code yX5_isPictures cX5_isPictures 2 (some .boolean), Cond.methodLink RX5 66 yX5_may, Cond.instanceMethod yX5_may, Cond.selects RX5 yX5_may yX5_may, Cond.code yX5_may cX5_may 5 (some .boolean), Cond.constantLong RX5 53 (3)]
def wsX5_copy : List Cond := .code yX5_copy cX5_copy 10 (some .int) :: ((wsX5_copy_r1 ++ wsX5_copy_r2) ++ wsX50)
def wsX5_order : List Cond := .code yX5_order cX5_order 8 (some .int) :: ([.fieldLink RX5 41 "ScriptoriumModel" "thrown" "I", .fieldLink RX5 32 "ScriptoriumModel" "waits" "[I", .fieldLink RX5 29 "ScriptoriumModel" "wait" "[I", .methodLink RX5 74 yX5_isScribe, .static yX5_isScribe, .initialized RX5, .code yX5_isScribe cX5_isScribe 1 (some .boolean), .methodLink RX5 45 yX5_isDesk, .static yX5_isDesk, .code yX5_isDesk cX5_isDesk 1 (some .boolean)] ++ wsX50)
def wsX5_day_r1 : List Cond := [Cond.fieldLink RX5 41 "ScriptoriumModel" "thrown" "I", Cond.fieldLink RX5 32 "ScriptoriumModel" "waits" "[I", Cond.fieldLink RX5 29 "ScriptoriumModel" "wait" "[I", Cond.methodLink RX5 81 yX5_copy, Cond.instanceMethod yX5_copy, Cond.selects RX5 yX5_copy yX5_copy, Cond.initialized RX5, Cond.code yX5_copy cX5_copy 10 (some .int), Cond.fieldLink RX5 23 "ScriptoriumModel" "ink" "[I", Cond.fieldLink RX5 26 "ScriptoriumModel" "copied" "[I", Cond.fieldLink RX5 38 "ScriptoriumModel" "counts" "[I", Cond.fieldLink RX5 35 "ScriptoriumModel" "chronicle" "[I", Cond.methodLink RX5 74 yX5_isScribe, Cond.static yX5_isScribe, Cond.code yX5_isScribe cX5_isScribe 1 (some .boolean), Cond.methodLink RX5 45 yX5_isDesk, Cond.static yX5_isDesk, Cond.code yX5_isDesk cX5_isDesk 1 (some .boolean), Cond.methodLink RX5 77 yX5_passes, Cond.instanceMethod yX5_passes, Cond.selects RX5 yX5_passes yX5_passes, Cond.code yX5_passes cX5_passes 13 (some .int), Cond.fieldLink RX5 7 "ScriptoriumModel" "desk" "[I", Cond.fieldLink RX5 16 "ScriptoriumModel" "size" "[I"]
def wsX5_day_r2 : List Cond := [Cond.fieldLink RX5 19 "ScriptoriumModel" "sign" "[J", Cond.methodLink RX5 70 yX5_unlike, Cond.instanceMethod yX5_unlike, Cond.selects RX5 yX5_unlike yX5_unlike, Cond.code yX5_unlike cX5_unlike 5 (some .int), Cond.fieldLink RX5 13 "ScriptoriumModel" "script" "[I", Cond.methodLink RX5 57 yX5_isPictures, Cond.instanceMethod yX5_isPictures, Cond.selects RX5 yX5_isPictures yX5_isPictures, Cond.code yX5_isPictures cX5_isPictures 2 (some .boolean), Cond.methodLink RX5 66 yX5_may, Cond.instanceMethod yX5_may, Cond.selects RX5 yX5_may yX5_may, Cond.code yX5_may cX5_may 5 (some .boolean), Cond.constantLong RX5 53 (3)]
def wsX5_day : List Cond := .code yX5_day cX5_day 5 (some .int) :: ((wsX5_day_r1 ++ wsX5_day_r2) ++ wsX50)
def wsX5_fill : List Cond := .code yX5_fill cX5_fill 3 (some .int) :: ([.fieldLink RX5 41 "ScriptoriumModel" "thrown" "I", .fieldLink RX5 23 "ScriptoriumModel" "ink" "[I", .methodLink RX5 74 yX5_isScribe, .static yX5_isScribe, .initialized RX5, .code yX5_isScribe cX5_isScribe 1 (some .boolean)] ++ wsX50)
def wsX5_scribe : List Cond := .code yX5_scribe cX5_scribe 3 (some .int) :: ([.fieldLink RX5 41 "ScriptoriumModel" "thrown" "I", .fieldLink RX5 23 "ScriptoriumModel" "ink" "[I", .fieldLink RX5 32 "ScriptoriumModel" "waits" "[I", .fieldLink RX5 26 "ScriptoriumModel" "copied" "[I", .methodLink RX5 74 yX5_isScribe, .static yX5_isScribe, .initialized RX5, .code yX5_isScribe cX5_isScribe 1 (some .boolean)] ++ wsX50)
def wsX5_sign : List Cond := .code yX5_sign cX5_sign 3 (some .long) :: ([.fieldLink RX5 41 "ScriptoriumModel" "thrown" "I", .fieldLink RX5 7 "ScriptoriumModel" "desk" "[I", .fieldLink RX5 16 "ScriptoriumModel" "size" "[I", .fieldLink RX5 19 "ScriptoriumModel" "sign" "[J", .methodLink RX5 45 yX5_isDesk, .static yX5_isDesk, .initialized RX5, .code yX5_isDesk cX5_isDesk 1 (some .boolean)] ++ wsX50)
def wsX5_book : List Cond := .code yX5_book cX5_book 3 (some .int) :: ([.fieldLink RX5 41 "ScriptoriumModel" "thrown" "I", .fieldLink RX5 7 "ScriptoriumModel" "desk" "[I", .fieldLink RX5 13 "ScriptoriumModel" "script" "[I", .fieldLink RX5 16 "ScriptoriumModel" "size" "[I", .methodLink RX5 45 yX5_isDesk, .static yX5_isDesk, .initialized RX5, .code yX5_isDesk cX5_isDesk 1 (some .boolean)] ++ wsX50)
def wsX5_differ : List Cond := .code yX5_differ cX5_differ 8 (some .int) :: ([.fieldLink RX5 41 "ScriptoriumModel" "thrown" "I", .fieldLink RX5 7 "ScriptoriumModel" "desk" "[I", .fieldLink RX5 16 "ScriptoriumModel" "size" "[I", .fieldLink RX5 19 "ScriptoriumModel" "sign" "[J", .methodLink RX5 45 yX5_isDesk, .static yX5_isDesk, .initialized RX5, .code yX5_isDesk cX5_isDesk 1 (some .boolean), .methodLink RX5 70 yX5_unlike, .instanceMethod yX5_unlike, .selects RX5 yX5_unlike yX5_unlike, .code yX5_unlike cX5_unlike 5 (some .int), .fieldLink RX5 13 "ScriptoriumModel" "script" "[I"] ++ wsX50)
def wsX5_chronicle : List Cond := .code yX5_chronicle cX5_chronicle 3 (some .int) :: ([.fieldLink RX5 41 "ScriptoriumModel" "thrown" "I", .fieldLink RX5 38 "ScriptoriumModel" "counts" "[I", .fieldLink RX5 35 "ScriptoriumModel" "chronicle" "[I"] ++ wsX50)
def wsX5_count : List Cond := .code yX5_count cX5_count 2 (some .int) :: ([.fieldLink RX5 41 "ScriptoriumModel" "thrown" "I", .fieldLink RX5 38 "ScriptoriumModel" "counts" "[I"] ++ wsX50)
def wsJ9_min_7cf53 : List Cond := .code yJ9_min_7cf53 cJ9_min_7cf53 2 (some .int) :: ([])
def wsL_sign_r1 : List Cond := [Cond.classLink RL 13 "java/lang/IllegalStateException", Cond.classLink RL 15 "java/lang/IndexOutOfBoundsException", Cond.methodLink RL 7 yX4_sign, Cond.instanceMethod yX4_sign, Cond.selects RX4 yX4_sign yX4_sign, Cond.initialized RX4, Cond.code yX4_sign cX4_sign 3 (some .long), Cond.classLink RX4 118 "java/lang/IllegalStateException", Cond.initialized "java/lang/IllegalStateException", Cond.classLink RX4 125 "java/lang/IndexOutOfBoundsException", Cond.initialized "java/lang/IndexOutOfBoundsException", Cond.fieldLink RX4 21 "Scriptorium" "desks" "[LScriptorium$Book;", Cond.methodLink RX4 43 yX4_isDesk, Cond.static yX4_isDesk, Cond.code yX4_isDesk cX4_isDesk 1 (some .boolean), Cond.methodLink RX4 55 yX0_isNoBook, Cond.instanceMethod yX0_isNoBook, Cond.selects RX0 yX0_isNoBook yX0_isNoBook, Cond.initialized RX0, Cond.code yX0_isNoBook cX0_isNoBook 1 (some .boolean), Cond.fieldLink RX0 9 "Scriptorium$Book" "script" "I", Cond.methodLink RX4 62 yX0_hasPlace, Cond.instanceMethod yX0_hasPlace, Cond.selects RX0 yX0_hasPlace yX0_hasPlace]
def wsL_sign_r2 : List Cond := [Cond.code yX0_hasPlace cX0_hasPlace 2 (some .boolean), Cond.fieldLink RX0 15 "Scriptorium$Book" "values" "[J", Cond.methodLink RX4 130 yX0_signAt, Cond.instanceMethod yX0_signAt, Cond.selects RX0 yX0_signAt yX0_signAt, Cond.code yX0_signAt cX0_signAt 2 (some .long), Cond.constantLong RX0 34 (4), Cond.fieldLink RX0 19 "Scriptorium$Book" "sorts" "[I", Cond.methodLink RX0 27 yX0_hasPictures, Cond.instanceMethod yX0_hasPictures, Cond.selects RX0 yX0_hasPictures yX0_hasPictures, Cond.code yX0_hasPictures cX0_hasPictures 1 (some .boolean)]
def wsL_sign : List Cond := .codeWith yL_sign cL_sign 5 (some .int) [(0, 9, 12, 13), (0, 9, 16, 15)] :: ((wsL_sign_r1 ++ wsL_sign_r2) ++ wsX40 ++ wsX00 ++ (vx_atS RX4 122 "java/lang/IllegalStateException" ["java/lang/RuntimeException", "java/lang/Exception"]).filter goodWord ++ (vx_atS RX4 129 "java/lang/IndexOutOfBoundsException" ["java/lang/RuntimeException", "java/lang/Exception"]).filter goodWord)
def wsL_law0_r1 : List Cond := [Cond.classLink RL 8 RX4, Cond.instantiable RX4 6, Cond.initialized RX4, Cond.classLink RL 18 RX5, Cond.instantiable RX5 11, Cond.initialized RX5, Cond.arrayClass .long, Cond.constantLong RL 40 (4294967295), Cond.methodLink RL 17 yX4_init, Cond.instanceMethod yX4_init, Cond.code yX4_init cX4_init 2 none, Cond.methodLink RX4 1 objectInit, Cond.instanceMethod objectInit, Cond.code objectInit ⟨#[0xb1]⟩ 1 none, Cond.classLink RX4 7 RX0, Cond.instantiable RX0 3, Cond.initialized RX0, Cond.fieldLink RX4 14 "Scriptorium" "nothing" "LScriptorium$Book;", Cond.fieldLink RX4 18 "Scriptorium" "rock" "LScriptorium$Book;", Cond.fieldLink RX4 21 "Scriptorium" "desks" "[LScriptorium$Book;", Cond.classLink RX4 25 RX3, Cond.fieldLink RX4 27 "Scriptorium" "scribes" "[LScriptorium$Scribe;", Cond.instantiable RX3 4, Cond.initialized RX3]
def wsL_law0_r2 : List Cond := [Cond.classLink RX4 32 RX1, Cond.instantiable RX1 6, Cond.initialized RX1, Cond.fieldLink RX4 35 "Scriptorium" "latest" "LScriptorium$Chronicle;", Cond.arrayClass .int, Cond.fieldLink RX4 39 "Scriptorium" "tallies" "[I", Cond.methodLink RX4 11 yX0_init, Cond.instanceMethod yX0_init, Cond.code yX0_init cX0_init 3 none, Cond.methodLink RX0 3 objectInit, Cond.fieldLink RX0 9 "Scriptorium$Book" "script" "I", Cond.fieldLink RX0 15 "Scriptorium$Book" "values" "[J", Cond.fieldLink RX0 19 "Scriptorium$Book" "sorts" "[I", Cond.methodLink RX4 31 yX3_init, Cond.instanceMethod yX3_init, Cond.code yX3_init cX3_init 1 none, Cond.methodLink RX3 3 objectInit, Cond.fieldLink RX3 9 "Scriptorium$Scribe" "ink" "I", Cond.classLink RX3 15 RX2, Cond.fieldLink RX3 17 "Scriptorium$Scribe" "orders" "[LScriptorium$Passage;", Cond.methodLink RX4 34 yX1_init, Cond.instanceMethod yX1_init, Cond.code yX1_init cX1_init 1 none, Cond.methodLink RX1 3 objectInit]
def wsL_law0_r3 : List Cond := [Cond.fieldLink RX1 9 "Scriptorium$Chronicle" "scribeNumbers" "[I", Cond.fieldLink RX1 15 "Scriptorium$Chronicle" "sources" "[I", Cond.fieldLink RX1 18 "Scriptorium$Chronicle" "targets" "[I", Cond.fieldLink RX1 21 "Scriptorium$Chronicle" "answers" "[I", Cond.methodLink RL 20 yX5_init, Cond.instanceMethod yX5_init, Cond.code yX5_init cX5_init 1 none, Cond.methodLink RX5 1 objectInit, Cond.fieldLink RX5 7 "ScriptoriumModel" "desk" "[I", Cond.fieldLink RX5 13 "ScriptoriumModel" "script" "[I", Cond.fieldLink RX5 16 "ScriptoriumModel" "size" "[I", Cond.fieldLink RX5 19 "ScriptoriumModel" "sign" "[J", Cond.fieldLink RX5 23 "ScriptoriumModel" "ink" "[I", Cond.fieldLink RX5 26 "ScriptoriumModel" "copied" "[I", Cond.fieldLink RX5 29 "ScriptoriumModel" "wait" "[I", Cond.fieldLink RX5 32 "ScriptoriumModel" "waits" "[I", Cond.fieldLink RX5 35 "ScriptoriumModel" "chronicle" "[I", Cond.fieldLink RX5 38 "ScriptoriumModel" "counts" "[I", Cond.methodLink RL 21 yX4_bind, Cond.instanceMethod yX4_bind, Cond.selects RX4 yX4_bind yX4_bind, Cond.code yX4_bind cX4_bind 4 (some .int), Cond.methodLink RX4 43 yX4_isDesk, Cond.static yX4_isDesk]
def wsL_law0_r4 : List Cond := [Cond.code yX4_isDesk cX4_isDesk 1 (some .boolean), Cond.methodLink RX4 47 yX4_lay, Cond.instanceMethod yX4_lay, Cond.selects RX4 yX4_lay yX4_lay, Cond.code yX4_lay cX4_lay 3 (some .int), Cond.methodLink RL 25 yX5_bind, Cond.instanceMethod yX5_bind, Cond.selects RX5 yX5_bind yX5_bind, Cond.code yX5_bind cX5_bind 6 (some .int), Cond.fieldLink RX5 41 "ScriptoriumModel" "thrown" "I", Cond.methodLink RX5 45 yX5_isDesk, Cond.static yX5_isDesk, Cond.code yX5_isDesk cX5_isDesk 1 (some .boolean), Cond.methodLink RX5 49 yX5_isUsed, Cond.instanceMethod yX5_isUsed, Cond.selects RX5 yX5_isUsed yX5_isUsed, Cond.code yX5_isUsed cX5_isUsed 4 (some .boolean), Cond.methodLink RL 26 yX4_stone, Cond.instanceMethod yX4_stone, Cond.selects RX4 yX4_stone yX4_stone, Cond.code yX4_stone cX4_stone 2 (some .int), Cond.methodLink RL 30 yX5_stone, Cond.instanceMethod yX5_stone, Cond.selects RX5 yX5_stone yX5_stone]
def wsL_law0_r5 : List Cond := [Cond.code yX5_stone cX5_stone 2 (some .int), Cond.methodLink RL 31 yX4_share, Cond.instanceMethod yX4_share, Cond.selects RX4 yX4_share yX4_share, Cond.code yX4_share cX4_share 3 (some .int), Cond.methodLink RL 35 yX5_share, Cond.instanceMethod yX5_share, Cond.selects RX5 yX5_share yX5_share, Cond.code yX5_share cX5_share 3 (some .int), Cond.methodLink RL 36 yX4_clear, Cond.instanceMethod yX4_clear, Cond.selects RX4 yX4_clear yX4_clear, Cond.code yX4_clear cX4_clear 2 (some .int), Cond.methodLink RL 39 yX5_clear, Cond.instanceMethod yX5_clear, Cond.selects RX5 yX5_clear yX5_clear, Cond.code yX5_clear cX5_clear 2 (some .int), Cond.methodLink RL 42 yX4_write, Cond.instanceMethod yX4_write, Cond.selects RX4 yX4_write yX4_write, Cond.code yX4_write cX4_write 7 (some .int), Cond.fieldLink RX4 58 "Scriptorium$Book" "script" "I", Cond.fieldLink RX4 69 "Scriptorium$Book" "values" "[J", Cond.methodLink RX4 51 yX0_hasPictures]
def wsL_law0_r6 : List Cond := [Cond.instanceMethod yX0_hasPictures, Cond.selects RX0 yX0_hasPictures yX0_hasPictures, Cond.code yX0_hasPictures cX0_hasPictures 1 (some .boolean), Cond.methodLink RX4 55 yX0_isNoBook, Cond.instanceMethod yX0_isNoBook, Cond.selects RX0 yX0_isNoBook yX0_isNoBook, Cond.code yX0_isNoBook cX0_isNoBook 1 (some .boolean), Cond.methodLink RX4 62 yX0_hasPlace, Cond.instanceMethod yX0_hasPlace, Cond.selects RX0 yX0_hasPlace yX0_hasPlace, Cond.code yX0_hasPlace cX0_hasPlace 2 (some .boolean), Cond.methodLink RX4 65 yX0_paint, Cond.instanceMethod yX0_paint, Cond.selects RX0 yX0_paint yX0_paint, Cond.code yX0_paint cX0_paint 5 (some .boolean), Cond.methodLink RX0 30 yX0_admits, Cond.instanceMethod yX0_admits, Cond.selects RX0 yX0_admits yX0_admits, Cond.code yX0_admits cX0_admits 2 (some .boolean), Cond.methodLink RX4 73 yX0_cut, Cond.instanceMethod yX0_cut, Cond.selects RX0 yX0_cut yX0_cut, Cond.code yX0_cut cX0_cut 3 (some .long), Cond.methodLink RL 46 yX5_write]
def wsL_law0_r7 : List Cond := [Cond.instanceMethod yX5_write, Cond.selects RX5 yX5_write yX5_write, Cond.code yX5_write cX5_write 9 (some .int), Cond.constantLong RX5 64 (4), Cond.methodLink RX5 57 yX5_isPictures, Cond.instanceMethod yX5_isPictures, Cond.selects RX5 yX5_isPictures yX5_isPictures, Cond.code yX5_isPictures cX5_isPictures 2 (some .boolean), Cond.methodLink RX5 60 yX5_cut, Cond.static yX5_cut, Cond.code yX5_cut cX5_cut 3 (some .long), Cond.constantLong RX5 55 (65535), Cond.methodLink RX5 66 yX5_may, Cond.instanceMethod yX5_may, Cond.selects RX5 yX5_may yX5_may, Cond.code yX5_may cX5_may 5 (some .boolean), Cond.constantLong RX5 53 (3), Cond.methodLink RL 47 yX4_copy, Cond.instanceMethod yX4_copy, Cond.selects RX4 yX4_copy yX4_copy, Cond.code yX4_copy cX4_copy 7 (some .int), Cond.classLink RX4 77 RX2, Cond.instantiable RX2 6, Cond.initialized RX2]
def wsL_law0_r8 : List Cond := [Cond.methodLink RX4 79 yX2_init, Cond.instanceMethod yX2_init, Cond.code yX2_init cX2_init 7 none, Cond.methodLink RX2 1 objectInit, Cond.fieldLink RX2 7 "Scriptorium$Passage" "scribe" "I", Cond.fieldLink RX2 13 "Scriptorium$Passage" "a" "I", Cond.fieldLink RX2 16 "Scriptorium$Passage" "i" "I", Cond.fieldLink RX2 19 "Scriptorium$Passage" "b" "I", Cond.fieldLink RX2 22 "Scriptorium$Passage" "j" "I", Cond.fieldLink RX2 25 "Scriptorium$Passage" "n" "I", Cond.methodLink RX4 82 yX4_perform, Cond.instanceMethod yX4_perform, Cond.selects RX4 yX4_perform yX4_perform, Cond.code yX4_perform cX4_perform 5 (some .int), Cond.fieldLink RX4 164 "Scriptorium$Passage" "scribe" "I", Cond.fieldLink RX4 103 "Scriptorium$Scribe" "ink" "I", Cond.fieldLink RX4 173 "Scriptorium$Passage" "n" "I", Cond.fieldLink RX4 167 "Scriptorium$Passage" "a" "I", Cond.fieldLink RX4 170 "Scriptorium$Passage" "b" "I", Cond.methodLink RX4 86 yX4_isPossible, Cond.static yX4_isPossible, Cond.code yX4_isPossible cX4_isPossible 1 (some .boolean), Cond.methodLink RX4 100 yX4_isScribe, Cond.static yX4_isScribe]
def wsL_law0_r9 : List Cond := [Cond.code yX4_isScribe cX4_isScribe 1 (some .boolean), Cond.methodLink RX4 176 yX4_transcribe, Cond.static yX4_transcribe, Cond.code yX4_transcribe cX4_transcribe 5 (some .int), Cond.fieldLink RX4 194 "Scriptorium$Passage" "i" "I", Cond.fieldLink RX4 201 "Scriptorium$Passage" "j" "I", Cond.methodLink RX4 138 yX4_hindranceBetween, Cond.static yX4_hindranceBetween, Cond.code yX4_hindranceBetween cX4_hindranceBetween 2 (some .int), Cond.methodLink RX4 212 yX0_isAlike, Cond.instanceMethod yX0_isAlike, Cond.selects RX0 yX0_isAlike yX0_isAlike, Cond.code yX0_isAlike cX0_isAlike 2 (some .boolean), Cond.methodLink RX0 23 yX0_isNoBook, Cond.methodLink RX0 27 yX0_hasPictures, Cond.methodLink RX4 197 yX0_hasRun, Cond.instanceMethod yX0_hasRun, Cond.selects RX0 yX0_hasRun yX0_hasRun, Cond.code yX0_hasRun cX0_hasRun 3 (some .boolean), Cond.methodLink RX4 204 yX0_fittingOf, Cond.instanceMethod yX0_fittingOf, Cond.selects RX0 yX0_fittingOf yX0_fittingOf, Cond.code yX0_fittingOf cX0_fittingOf 5 (some .int), Cond.methodLink RX4 208 yX0_take]
def wsL_law0_r10 : List Cond := [Cond.instanceMethod yX0_take, Cond.selects RX0 yX0_take yX0_take, Cond.code yX0_take cX0_take 5 none, Cond.methodLink RX0 36 arraycopyName, Cond.native arraycopyName, Cond.static arraycopyName, Cond.initialized "java/lang/System", Cond.methodLink RX4 180 yX4_signsCopied, Cond.static yX4_signsCopied, Cond.code yX4_signsCopied cX4_signsCopied 1 (some .int), Cond.methodLink RX4 183 yX3_use, Cond.instanceMethod yX3_use, Cond.selects RX3 yX3_use yX3_use, Cond.code yX3_use cX3_use 2 none, Cond.fieldLink RX3 21 "Scriptorium$Scribe" "copied" "I", Cond.methodLink RX4 187 yX4_tallyOf, Cond.static yX4_tallyOf, Cond.code yX4_tallyOf cX4_tallyOf 1 (some .int), Cond.methodLink RX4 190 yX1_add, Cond.instanceMethod yX1_add, Cond.selects RX1 yX1_add yX1_add, Cond.code yX1_add cX1_add 3 none, Cond.fieldLink RX1 28 "Scriptorium$Chronicle" "next" "I", Cond.fieldLink RX1 37 "Scriptorium$Passage" "scribe" "I"]
def wsL_law0_r11 : List Cond := [Cond.fieldLink RX1 42 "Scriptorium$Passage" "a" "I", Cond.fieldLink RX1 45 "Scriptorium$Passage" "b" "I", Cond.fieldLink RX1 24 "Scriptorium$Chronicle" "held" "I", Cond.methodLink RX1 48 Lib.Math.min.name, Cond.static Lib.Math.min.name, Cond.initialized "java/lang/Math", Cond.code Lib.Math.min.name Lib.Math.min.code 2 (some .int), Cond.methodLink RL 51 yX5_copy, Cond.instanceMethod yX5_copy, Cond.selects RX5 yX5_copy yX5_copy, Cond.code yX5_copy cX5_copy 10 (some .int), Cond.methodLink RX5 74 yX5_isScribe, Cond.static yX5_isScribe, Cond.code yX5_isScribe cX5_isScribe 1 (some .boolean), Cond.methodLink RX5 77 yX5_passes, Cond.instanceMethod yX5_passes, Cond.selects RX5 yX5_passes yX5_passes, Cond.code yX5_passes cX5_passes 13 (some .int), Cond.methodLink RX5 70 yX5_unlike, Cond.instanceMethod yX5_unlike, Cond.selects RX5 yX5_unlike yX5_unlike, Cond.code yX5_unlike cX5_unlike 5 (some .int), Cond.methodLink RL 52 yX4_order, Cond.instanceMethod yX4_order]
def wsL_law0_r12 : List Cond := [Cond.selects RX4 yX4_order yX4_order, Cond.code yX4_order cX4_order 8 (some .int), Cond.methodLink RX4 90 yX3_addOrder, Cond.instanceMethod yX3_addOrder, Cond.selects RX3 yX3_addOrder yX3_addOrder, Cond.code yX3_addOrder cX3_addOrder 2 (some .int), Cond.fieldLink RX3 24 "Scriptorium$Scribe" "waiting" "I", Cond.methodLink RL 55 yX5_order, Cond.instanceMethod yX5_order, Cond.selects RX5 yX5_order yX5_order, Cond.code yX5_order cX5_order 8 (some .int), Cond.methodLink RL 56 yX4_day, Cond.instanceMethod yX4_day, Cond.selects RX4 yX4_day yX4_day, Cond.code yX4_day cX4_day 4 (some .int), Cond.methodLink RX4 93 yX3_firstOrder, Cond.instanceMethod yX3_firstOrder, Cond.selects RX3 yX3_firstOrder yX3_firstOrder, Cond.code yX3_firstOrder cX3_firstOrder 1 (some (.object "Scriptorium$Passage")), Cond.methodLink RX4 97 yX3_dropFirstOrder, Cond.instanceMethod yX3_dropFirstOrder, Cond.selects RX3 yX3_dropFirstOrder yX3_dropFirstOrder, Cond.code yX3_dropFirstOrder cX3_dropFirstOrder 2 none, Cond.methodLink RL 60 yX5_day]
def wsL_law0_r13 : List Cond := [Cond.instanceMethod yX5_day, Cond.selects RX5 yX5_day yX5_day, Cond.code yX5_day cX5_day 5 (some .int), Cond.methodLink RX5 81 yX5_copy, Cond.methodLink RL 61 yX4_fill, Cond.instanceMethod yX4_fill, Cond.selects RX4 yX4_fill yX4_fill, Cond.code yX4_fill cX4_fill 3 (some .int), Cond.methodLink RX4 106 Lib.Math.min.name, Cond.methodLink RL 64 yX5_fill, Cond.instanceMethod yX5_fill, Cond.selects RX5 yX5_fill yX5_fill, Cond.code yX5_fill cX5_fill 3 (some .int), Cond.methodLink RL 65 yX4_scribe, Cond.instanceMethod yX4_scribe, Cond.selects RX4 yX4_scribe yX4_scribe, Cond.code yX4_scribe cX4_scribe 3 (some .int), Cond.fieldLink RX4 112 "Scriptorium$Scribe" "waiting" "I", Cond.fieldLink RX4 115 "Scriptorium$Scribe" "copied" "I", Cond.methodLink RL 68 yX5_scribe, Cond.instanceMethod yX5_scribe, Cond.selects RX5 yX5_scribe yX5_scribe, Cond.code yX5_scribe cX5_scribe 3 (some .int), Cond.methodLink RL 69 yL_sign]
def wsL_law0_r14 : List Cond := [Cond.static yL_sign, Cond.initialized RL, Cond.codeWith yL_sign cL_sign 5 (some .int) [(0, 9, 12, 13), (0, 9, 16, 15)], Cond.classLink RL 13 "java/lang/IllegalStateException", Cond.classLink RL 15 "java/lang/IndexOutOfBoundsException", Cond.methodLink RL 7 yX4_sign, Cond.instanceMethod yX4_sign, Cond.selects RX4 yX4_sign yX4_sign, Cond.code yX4_sign cX4_sign 3 (some .long), Cond.classLink RX4 118 "java/lang/IllegalStateException", Cond.initialized "java/lang/IllegalStateException", Cond.classLink RX4 125 "java/lang/IndexOutOfBoundsException", Cond.initialized "java/lang/IndexOutOfBoundsException", Cond.methodLink RX4 130 yX0_signAt, Cond.instanceMethod yX0_signAt, Cond.selects RX0 yX0_signAt yX0_signAt, Cond.code yX0_signAt cX0_signAt 2 (some .long), Cond.constantLong RX0 34 (4), Cond.methodLink RL 74 yX5_sign, Cond.instanceMethod yX5_sign, Cond.selects RX5 yX5_sign yX5_sign, Cond.code yX5_sign cX5_sign 3 (some .long), Cond.methodLink RL 75 yX5_thrown, Cond.instanceMethod yX5_thrown]
def wsL_law0_r15 : List Cond := [Cond.selects RX5 yX5_thrown yX5_thrown, Cond.code yX5_thrown cX5_thrown 1 (some .int), Cond.methodLink RL 78 yX4_book, Cond.instanceMethod yX4_book, Cond.selects RX4 yX4_book yX4_book, Cond.code yX4_book cX4_book 4 (some .int), Cond.methodLink RX4 134 yX0_length, Cond.instanceMethod yX0_length, Cond.selects RX0 yX0_length yX0_length, Cond.code yX0_length cX0_length 1 (some .int), Cond.methodLink RL 81 yX5_book, Cond.instanceMethod yX5_book, Cond.selects RX5 yX5_book yX5_book, Cond.code yX5_book cX5_book 3 (some .int), Cond.methodLink RL 82 yX4_differ, Cond.instanceMethod yX4_differ, Cond.selects RX4 yX4_differ yX4_differ, Cond.code yX4_differ cX4_differ 4 (some .int), Cond.methodLink RX4 142 yX4_firstDifference, Cond.static yX4_firstDifference, Cond.code yX4_firstDifference cX4_firstDifference 4 (some .int), Cond.fieldLink RX4 216 "Scriptorium$Book" "sorts" "[I", Cond.methodLink RL 85 yX5_differ, Cond.instanceMethod yX5_differ]
def wsL_law0_r16 : List Cond := [Cond.selects RX5 yX5_differ yX5_differ, Cond.code yX5_differ cX5_differ 8 (some .int), Cond.methodLink RL 86 yX4_chronicle, Cond.instanceMethod yX4_chronicle, Cond.selects RX4 yX4_chronicle yX4_chronicle, Cond.code yX4_chronicle cX4_chronicle 4 (some .int), Cond.fieldLink RX4 152 "Scriptorium$Chronicle" "scribeNumbers" "[I", Cond.fieldLink RX4 155 "Scriptorium$Chronicle" "sources" "[I", Cond.fieldLink RX4 158 "Scriptorium$Chronicle" "targets" "[I", Cond.fieldLink RX4 161 "Scriptorium$Chronicle" "answers" "[I", Cond.methodLink RX4 145 yX1_has, Cond.instanceMethod yX1_has, Cond.selects RX1 yX1_has yX1_has, Cond.code yX1_has cX1_has 2 (some .boolean), Cond.methodLink RX4 148 yX1_rowOf, Cond.instanceMethod yX1_rowOf, Cond.selects RX1 yX1_rowOf yX1_rowOf, Cond.code yX1_rowOf cX1_rowOf 2 (some .int), Cond.methodLink RX1 31 yJ9_floorMod_7cf53, Cond.static yJ9_floorMod_7cf53, Cond.initialized RJ9, Cond.code yJ9_floorMod_7cf53 cJ9_floorMod_7cf53 3 (some .int), Cond.methodLink RL 89 yX5_chronicle, Cond.instanceMethod yX5_chronicle]
def wsL_law0_r17 : List Cond := [Cond.selects RX5 yX5_chronicle yX5_chronicle, Cond.code yX5_chronicle cX5_chronicle 3 (some .int), Cond.methodLink RL 90 yX4_count, Cond.instanceMethod yX4_count, Cond.selects RX4 yX4_count yX4_count, Cond.code yX4_count cX4_count 2 (some .int), Cond.methodLink RL 93 yX5_count, Cond.instanceMethod yX5_count, Cond.selects RX5 yX5_count yX5_count, Cond.code yX5_count cX5_count 2 (some .int)]
def wsL_law0 : List Cond := (wsL_law0_r1 ++ (wsL_law0_r2 ++ (wsL_law0_r3 ++ (wsL_law0_r4 ++ (wsL_law0_r5 ++ (wsL_law0_r6 ++ (wsL_law0_r7 ++ (wsL_law0_r8 ++ (wsL_law0_r9 ++ (wsL_law0_r10 ++ (wsL_law0_r11 ++ (wsL_law0_r12 ++ (wsL_law0_r13 ++ (wsL_law0_r14 ++ (wsL_law0_r15 ++ (wsL_law0_r16 ++ wsL_law0_r17)))))))))))))))) ++ wsX40 ++ wsX50 ++ wsX00 ++ wsX30 ++ wsX10 ++ wsX20 ++ ([] : List Cond)
def wsL_law : List Cond := wsL_law0 ++ (vx_atS RX4 122 "java/lang/IllegalStateException" ["java/lang/RuntimeException", "java/lang/Exception"]).filter goodWord ++ (vx_atS RX4 129 "java/lang/IndexOutOfBoundsException" ["java/lang/RuntimeException", "java/lang/Exception"]).filter goodWord
abbrev vwCl : List vw_C := [(RX0, TX0, 3), (RX1, TX1, 6), (RX2, TX2, 6), (RX3, TX3, 4), (RX4, TX4, 6), (RX5, TX5, 11)]
end
section
set_option maxRecDepth 20000 in
theorem wsL_law0_r1_in : ∀ w ∈ wsL_law0_r1, w ∈ lw_tbl := fun w h => (goodIn_p wsL_law0_r1 [26, 29] (by decide +kernel) (by decide +kernel) w h).1
set_option maxRecDepth 20000 in
theorem wsL_law0_r2_in : ∀ w ∈ wsL_law0_r2, w ∈ lw_tbl := fun w h => (goodIn_p wsL_law0_r2 [34, 57, 81] (by decide +kernel) (by decide +kernel) w h).1
set_option maxRecDepth 20000 in
theorem wsL_law0_r3_in : ∀ w ∈ wsL_law0_r3, w ∈ lw_tbl := fun w h => (goodIn_p wsL_law0_r3 [432, 128] (by decide +kernel) (by decide +kernel) w h).1
set_option maxRecDepth 20000 in
theorem wsL_law0_r4_in : ∀ w ∈ wsL_law0_r4, w ∈ lw_tbl := fun w h => (goodIn_p wsL_law0_r4 [131, 135, 475, 478, 482, 139] (by decide +kernel) (by decide +kernel) w h).1
set_option maxRecDepth 20000 in
theorem wsL_law0_r5_in : ∀ w ∈ wsL_law0_r5, w ∈ lw_tbl := fun w h => (goodIn_p wsL_law0_r5 [486, 143, 490, 147, 494, 151] (by decide +kernel) (by decide +kernel) w h).1
set_option maxRecDepth 20000 in
theorem wsL_law0_r6_in : ∀ w ∈ wsL_law0_r6, w ∈ lw_tbl := fun w h => (goodIn_p wsL_law0_r6 [155, 159, 163, 167, 171, 175] (by decide +kernel) (by decide +kernel) w h).1
end
section
set_option maxRecDepth 20000 in
theorem wsL_law0_r7_in : ∀ w ∈ wsL_law0_r7, w ∈ lw_tbl := fun w h => (goodIn_p wsL_law0_r7 [498, 502, 505, 511, 179] (by decide +kernel) (by decide +kernel) w h).1
set_option maxRecDepth 20000 in
theorem wsL_law0_r8_in : ∀ w ∈ wsL_law0_r8, w ∈ lw_tbl := fun w h => (goodIn_p wsL_law0_r8 [184, 217, 220] (by decide +kernel) (by decide +kernel) w h).1
set_option maxRecDepth 20000 in
theorem wsL_law0_r9_in : ∀ w ∈ wsL_law0_r9, w ∈ lw_tbl := fun w h => (goodIn_p wsL_law0_r9 [223, 226, 229, 233, 239, 243] (by decide +kernel) (by decide +kernel) w h).1
set_option maxRecDepth 20000 in
theorem wsL_law0_r10_in : ∀ w ∈ wsL_law0_r10, w ∈ lw_tbl := fun w h => (goodIn_p wsL_law0_r10 [247, 253, 257, 260, 264] (by decide +kernel) (by decide +kernel) w h).1
set_option maxRecDepth 20000 in
theorem wsL_law0_r11_in : ∀ w ∈ wsL_law0_r11, w ∈ lw_tbl := fun w h => (goodIn_p wsL_law0_r11 [267, 516, 519, 523, 527] (by decide +kernel) (by decide +kernel) w h).1
set_option maxRecDepth 20000 in
theorem wsL_law0_r12_in : ∀ w ∈ wsL_law0_r12, w ∈ lw_tbl := fun w h => (goodIn_p wsL_law0_r12 [271, 275, 531, 279, 283, 287] (by decide +kernel) (by decide +kernel) w h).1
end
section
set_option maxRecDepth 20000 in
theorem wsL_law0_r13_in : ∀ w ∈ wsL_law0_r13, w ∈ lw_tbl := fun w h => (goodIn_p wsL_law0_r13 [535, 291, 540, 296, 544] (by decide +kernel) (by decide +kernel) w h).1
set_option maxRecDepth 20000 in
theorem wsL_law0_r14_in : ∀ w ∈ wsL_law0_r14, w ∈ lw_tbl := fun w h => (goodIn_p wsL_law0_r14 [339, 426, 548] (by decide +kernel) (by decide +kernel) w h).1
set_option maxRecDepth 20000 in
theorem wsL_law0_r15_in : ∀ w ∈ wsL_law0_r15, w ∈ lw_tbl := fun w h => (goodIn_p wsL_law0_r15 [471, 300, 304, 552, 308, 311] (by decide +kernel) (by decide +kernel) w h).1
set_option maxRecDepth 20000 in
theorem wsL_law0_r16_in : ∀ w ∈ wsL_law0_r16, w ∈ lw_tbl := fun w h => (goodIn_p wsL_law0_r16 [556, 315, 319, 323, 326] (by decide +kernel) (by decide +kernel) w h).1
set_option maxRecDepth 20000 in
theorem wsL_law0_r17_in : ∀ w ∈ wsL_law0_r17, w ∈ lw_tbl := fun w h => (goodIn_p wsL_law0_r17 [560, 330, 564] (by decide +kernel) (by decide +kernel) w h).1
set_option maxRecDepth 20000 in
theorem wsX40_in : ∀ w ∈ wsX40, w ∈ lw_tbl := fun w h => (goodIn_p wsX40 [] (by decide +kernel) (by decide +kernel) w h).1
end
section
set_option maxRecDepth 20000 in
theorem wsX50_in : ∀ w ∈ wsX50, w ∈ lw_tbl := fun w h => (goodIn_p wsX50 [] (by decide +kernel) (by decide +kernel) w h).1
set_option maxRecDepth 20000 in
theorem wsX00_in : ∀ w ∈ wsX00, w ∈ lw_tbl := fun w h => (goodIn_p wsX00 [] (by decide +kernel) (by decide +kernel) w h).1
set_option maxRecDepth 20000 in
theorem wsX30_in : ∀ w ∈ wsX30, w ∈ lw_tbl := fun w h => (goodIn_p wsX30 [] (by decide +kernel) (by decide +kernel) w h).1
set_option maxRecDepth 20000 in
theorem wsX10_in : ∀ w ∈ wsX10, w ∈ lw_tbl := fun w h => (goodIn_p wsX10 [] (by decide +kernel) (by decide +kernel) w h).1
set_option maxRecDepth 20000 in
theorem wsX20_in : ∀ w ∈ wsX20, w ∈ lw_tbl := fun w h => (goodIn_p wsX20 [] (by decide +kernel) (by decide +kernel) w h).1
end
section
theorem wsL_law_in0 : ∀ w ∈ wsL_law0, w ∈ lw_tbl := (fun w h => (List.mem_append.mp h).elim ((fun w h => (List.mem_append.mp h).elim ((fun w h => (List.mem_append.mp h).elim ((fun w h => (List.mem_append.mp h).elim ((fun w h => (List.mem_append.mp h).elim ((fun w h => (List.mem_append.mp h).elim ((fun w h => (List.mem_append.mp h).elim ((fun w h => (List.mem_append.mp h).elim (wsL_law0_r1_in w) ((fun w h => (List.mem_append.mp h).elim (wsL_law0_r2_in w) ((fun w h => (List.mem_append.mp h).elim (wsL_law0_r3_in w) ((fun w h => (List.mem_append.mp h).elim (wsL_law0_r4_in w) ((fun w h => (List.mem_append.mp h).elim (wsL_law0_r5_in w) ((fun w h => (List.mem_append.mp h).elim (wsL_law0_r6_in w) ((fun w h => (List.mem_append.mp h).elim (wsL_law0_r7_in w) ((fun w h => (List.mem_append.mp h).elim (wsL_law0_r8_in w) ((fun w h => (List.mem_append.mp h).elim (wsL_law0_r9_in w) ((fun w h => (List.mem_append.mp h).elim (wsL_law0_r10_in w) ((fun w h => (List.mem_append.mp h).elim (wsL_law0_r11_in w) ((fun w h => (List.mem_append.mp h).elim (wsL_law0_r12_in w) ((fun w h => (List.mem_append.mp h).elim (wsL_law0_r13_in w) ((fun w h => (List.mem_append.mp h).elim (wsL_law0_r14_in w) ((fun w h => (List.mem_append.mp h).elim (wsL_law0_r15_in w) ((fun w h => (List.mem_append.mp h).elim (wsL_law0_r16_in w) (wsL_law0_r17_in w)) w)) w)) w)) w)) w)) w)) w)) w)) w)) w)) w)) w)) w)) w)) w)) w) (wsX40_in w)) w) (wsX50_in w)) w) (wsX00_in w)) w) (wsX30_in w)) w) (wsX10_in w)) w) (wsX20_in w)) w) ((fun _ h => absurd h List.not_mem_nil) w))
end
section
theorem wsL_law_x0 : ∀ w ∈ (vx_atS RX4 122 "java/lang/IllegalStateException" ["java/lang/RuntimeException", "java/lang/Exception"]).filter goodWord, w ∈ lw_tbl := by decide +kernel
theorem wsL_law_x1 : ∀ w ∈ (vx_atS RX4 129 "java/lang/IndexOutOfBoundsException" ["java/lang/RuntimeException", "java/lang/Exception"]).filter goodWord, w ∈ lw_tbl := by decide +kernel
theorem wsL_law_in : ∀ w ∈ wsL_law, w ∈ lw_tbl := fun w h => (List.mem_append.mp h).elim (fun h => (List.mem_append.mp h).elim (fun h => wsL_law_in0 w h) (fun h => wsL_law_x0 w h)) (fun h => wsL_law_x1 w h)
theorem inlX0 : ∀ w ∈ wsX00, w ∈ wsL_law := fun _ h => List.mem_append_left _ (List.mem_append_left _ (List.mem_append_left _ (List.mem_append_left _ (List.mem_append_left _ (List.mem_append_left _ (List.mem_append_right _ h))))))
theorem inX0 : ∀ w ∈ wsX00, w ∈ lw_tbl := fun w h => wsL_law_in w (inlX0 w h)
theorem inlX1 : ∀ w ∈ wsX10, w ∈ wsL_law := fun _ h => List.mem_append_left _ (List.mem_append_left _ (List.mem_append_left _ (List.mem_append_left _ (List.mem_append_right _ h))))
theorem inX1 : ∀ w ∈ wsX10, w ∈ lw_tbl := fun w h => wsL_law_in w (inlX1 w h)
theorem inlX2 : ∀ w ∈ wsX20, w ∈ wsL_law := fun _ h => List.mem_append_left _ (List.mem_append_left _ (List.mem_append_left _ (List.mem_append_right _ h)))
theorem inX2 : ∀ w ∈ wsX20, w ∈ lw_tbl := fun w h => wsL_law_in w (inlX2 w h)
theorem inlX3 : ∀ w ∈ wsX30, w ∈ wsL_law := fun _ h => List.mem_append_left _ (List.mem_append_left _ (List.mem_append_left _ (List.mem_append_left _ (List.mem_append_left _ (List.mem_append_right _ h)))))
theorem inX3 : ∀ w ∈ wsX30, w ∈ lw_tbl := fun w h => wsL_law_in w (inlX3 w h)
theorem inlX4 : ∀ w ∈ wsX40, w ∈ wsL_law := fun _ h => List.mem_append_left _ (List.mem_append_left _ (List.mem_append_left _ (List.mem_append_left _ (List.mem_append_left _ (List.mem_append_left _ (List.mem_append_left _ (List.mem_append_left _ (List.mem_append_right _ h))))))))
theorem inX4 : ∀ w ∈ wsX40, w ∈ lw_tbl := fun w h => wsL_law_in w (inlX4 w h)
theorem inlX5 : ∀ w ∈ wsX50, w ∈ wsL_law := fun _ h => List.mem_append_left _ (List.mem_append_left _ (List.mem_append_left _ (List.mem_append_left _ (List.mem_append_left _ (List.mem_append_left _ (List.mem_append_left _ (List.mem_append_right _ h)))))))
theorem inX5 : ∀ w ∈ wsX50, w ∈ lw_tbl := fun w h => wsL_law_in w (inlX5 w h)
theorem inJ9 : ∀ w ∈ wsJ90, w ∈ lw_tbl := by decide +kernel
theorem inJ0 : ∀ w ∈ wsJ00, w ∈ lw_tbl := by decide +kernel
theorem inJ10 : ∀ w ∈ wsJ100, w ∈ lw_tbl := by decide +kernel
theorem dX0_init_0 : decode cX0_init 0 = .ok (.aload_n 0, 1) := by decide +kernel
theorem dX0_init_1 : decode cX0_init 1 = .ok (.invokespecial 3, 3) := by decide +kernel
theorem dX0_init_4 : decode cX0_init 4 = .ok (.aload_n 0, 1) := by decide +kernel
theorem dX0_init_5 : decode cX0_init 5 = .ok (.iload_n 1, 1) := by decide +kernel
theorem dX0_init_6 : decode cX0_init 6 = .ok (.putfield 9, 3) := by decide +kernel
theorem dX0_init_9 : decode cX0_init 9 = .ok (.aload_n 0, 1) := by decide +kernel
theorem dX0_init_10 : decode cX0_init 10 = .ok (.iload_n 2, 1) := by decide +kernel
theorem dX0_init_11 : decode cX0_init 11 = .ok (.newarray .long, 2) := by decide +kernel
theorem dX0_init_13 : decode cX0_init 13 = .ok (.putfield 15, 3) := by decide +kernel
theorem dX0_init_16 : decode cX0_init 16 = .ok (.aload_n 0, 1) := by decide +kernel
theorem dX0_init_17 : decode cX0_init 17 = .ok (.iload_n 2, 1) := by decide +kernel
theorem dX0_init_18 : decode cX0_init 18 = .ok (.newarray .int, 2) := by decide +kernel
theorem dX0_init_20 : decode cX0_init 20 = .ok (.putfield 19, 3) := by decide +kernel
theorem dX0_init_23 : decode cX0_init 23 = .ok (.return_, 1) := by decide +kernel
theorem dX0_length_0 : decode cX0_length 0 = .ok (.aload_n 0, 1) := by decide +kernel
theorem dX0_length_1 : decode cX0_length 1 = .ok (.getfield 15, 3) := by decide +kernel
theorem dX0_length_4 : decode cX0_length 4 = .ok (.arraylength, 1) := by decide +kernel
theorem dX0_length_5 : decode cX0_length 5 = .ok (.ireturn, 1) := by decide +kernel
theorem dX0_isNoBook_0 : decode cX0_isNoBook 0 = .ok (.aload_n 0, 1) := by decide +kernel
theorem dX0_isNoBook_1 : decode cX0_isNoBook 1 = .ok (.getfield 9, 3) := by decide +kernel
theorem dX0_isNoBook_4 : decode cX0_isNoBook 4 = .ok (.ifCond .ge 7, 3) := by decide +kernel
theorem dX0_isNoBook_7 : decode cX0_isNoBook 7 = .ok (.iconst 1, 1) := by decide +kernel
theorem dX0_isNoBook_8 : decode cX0_isNoBook 8 = .ok (.goto 4, 3) := by decide +kernel
theorem dX0_isNoBook_11 : decode cX0_isNoBook 11 = .ok (.iconst 0, 1) := by decide +kernel
theorem dX0_isNoBook_12 : decode cX0_isNoBook 12 = .ok (.ireturn, 1) := by decide +kernel
theorem dX0_hasPictures_0 : decode cX0_hasPictures 0 = .ok (.aload_n 0, 1) := by decide +kernel
theorem dX0_hasPictures_1 : decode cX0_hasPictures 1 = .ok (.getfield 9, 3) := by decide +kernel
theorem dX0_hasPictures_4 : decode cX0_hasPictures 4 = .ok (.bipush 6, 2) := by decide +kernel
theorem dX0_hasPictures_6 : decode cX0_hasPictures 6 = .ok (.if_icmp .lt 7, 3) := by decide +kernel
theorem dX0_hasPictures_9 : decode cX0_hasPictures 9 = .ok (.iconst 1, 1) := by decide +kernel
theorem dX0_hasPictures_10 : decode cX0_hasPictures 10 = .ok (.goto 4, 3) := by decide +kernel
theorem dX0_hasPictures_13 : decode cX0_hasPictures 13 = .ok (.iconst 0, 1) := by decide +kernel
theorem dX0_hasPictures_14 : decode cX0_hasPictures 14 = .ok (.ireturn, 1) := by decide +kernel
set_option maxRecDepth 20000 in
theorem ggX0_isAlike_X0_isNoBook : GoodIn wsX0_isAlike wsX0_isNoBook := goodIn_r _ [6, 1, 11, 12, 13] (by decide +kernel) (by decide +kernel)
set_option maxRecDepth 20000 in
theorem gX0_isAlike_X0_isNoBook : GoodIn wsX0_isAlike (wsV RX0 23 RX0 yX0_isNoBook wsX0_isNoBook) := goodIn_app (goodIn_of _ (by decide +kernel)) ggX0_isAlike_X0_isNoBook
set_option maxRecDepth 20000 in
theorem ggX0_isAlike_X0_hasPictures : GoodIn wsX0_isAlike wsX0_hasPictures := goodIn_r _ [10, 1, 11, 12, 13] (by decide +kernel) (by decide +kernel)
set_option maxRecDepth 20000 in
theorem gX0_isAlike_X0_hasPictures : GoodIn wsX0_isAlike (wsV RX0 27 RX0 yX0_hasPictures wsX0_hasPictures) := goodIn_app (goodIn_of _ (by decide +kernel)) ggX0_isAlike_X0_hasPictures
theorem dX0_isAlike_0 : decode cX0_isAlike 0 = .ok (.aload_n 0, 1) := by decide +kernel
theorem dX0_isAlike_1 : decode cX0_isAlike 1 = .ok (.invokevirtual 23, 3) := by decide +kernel
theorem dX0_isAlike_4 : decode cX0_isAlike 4 = .ok (.ifCond .ne 32, 3) := by decide +kernel
theorem dX0_isAlike_7 : decode cX0_isAlike 7 = .ok (.aload_n 0, 1) := by decide +kernel
theorem dX0_isAlike_8 : decode cX0_isAlike 8 = .ok (.getfield 9, 3) := by decide +kernel
theorem dX0_isAlike_11 : decode cX0_isAlike 11 = .ok (.aload_n 1, 1) := by decide +kernel
theorem dX0_isAlike_12 : decode cX0_isAlike 12 = .ok (.getfield 9, 3) := by decide +kernel
theorem dX0_isAlike_15 : decode cX0_isAlike 15 = .ok (.if_icmp .eq 17, 3) := by decide +kernel
theorem dX0_isAlike_18 : decode cX0_isAlike 18 = .ok (.aload_n 0, 1) := by decide +kernel
theorem dX0_isAlike_19 : decode cX0_isAlike 19 = .ok (.invokevirtual 27, 3) := by decide +kernel
theorem dX0_isAlike_22 : decode cX0_isAlike 22 = .ok (.ifCond .eq 14, 3) := by decide +kernel
theorem dX0_isAlike_25 : decode cX0_isAlike 25 = .ok (.aload_n 1, 1) := by decide +kernel
theorem dX0_isAlike_26 : decode cX0_isAlike 26 = .ok (.invokevirtual 27, 3) := by decide +kernel
theorem dX0_isAlike_29 : decode cX0_isAlike 29 = .ok (.ifCond .eq 7, 3) := by decide +kernel
theorem dX0_isAlike_32 : decode cX0_isAlike 32 = .ok (.iconst 1, 1) := by decide +kernel
theorem dX0_isAlike_33 : decode cX0_isAlike 33 = .ok (.goto 4, 3) := by decide +kernel
theorem dX0_isAlike_36 : decode cX0_isAlike 36 = .ok (.iconst 0, 1) := by decide +kernel
theorem dX0_isAlike_37 : decode cX0_isAlike 37 = .ok (.ireturn, 1) := by decide +kernel
theorem dX0_hasPlace_0 : decode cX0_hasPlace 0 = .ok (.iload_n 1, 1) := by decide +kernel
theorem dX0_hasPlace_1 : decode cX0_hasPlace 1 = .ok (.ifCond .lt 16, 3) := by decide +kernel
theorem dX0_hasPlace_4 : decode cX0_hasPlace 4 = .ok (.iload_n 1, 1) := by decide +kernel
theorem dX0_hasPlace_5 : decode cX0_hasPlace 5 = .ok (.aload_n 0, 1) := by decide +kernel
theorem dX0_hasPlace_6 : decode cX0_hasPlace 6 = .ok (.getfield 15, 3) := by decide +kernel
theorem dX0_hasPlace_9 : decode cX0_hasPlace 9 = .ok (.arraylength, 1) := by decide +kernel
theorem dX0_hasPlace_10 : decode cX0_hasPlace 10 = .ok (.if_icmp .ge 7, 3) := by decide +kernel
theorem dX0_hasPlace_13 : decode cX0_hasPlace 13 = .ok (.iconst 1, 1) := by decide +kernel
theorem dX0_hasPlace_14 : decode cX0_hasPlace 14 = .ok (.goto 4, 3) := by decide +kernel
theorem dX0_hasPlace_17 : decode cX0_hasPlace 17 = .ok (.iconst 0, 1) := by decide +kernel
theorem dX0_hasPlace_18 : decode cX0_hasPlace 18 = .ok (.ireturn, 1) := by decide +kernel
theorem dX0_hasRun_0 : decode cX0_hasRun 0 = .ok (.iload_n 1, 1) := by decide +kernel
theorem dX0_hasRun_1 : decode cX0_hasRun 1 = .ok (.ifCond .lt 22, 3) := by decide +kernel
theorem dX0_hasRun_4 : decode cX0_hasRun 4 = .ok (.iload_n 2, 1) := by decide +kernel
theorem dX0_hasRun_5 : decode cX0_hasRun 5 = .ok (.ifCond .lt 18, 3) := by decide +kernel
theorem dX0_hasRun_8 : decode cX0_hasRun 8 = .ok (.iload_n 1, 1) := by decide +kernel
theorem dX0_hasRun_9 : decode cX0_hasRun 9 = .ok (.aload_n 0, 1) := by decide +kernel
theorem dX0_hasRun_10 : decode cX0_hasRun 10 = .ok (.getfield 15, 3) := by decide +kernel
theorem dX0_hasRun_13 : decode cX0_hasRun 13 = .ok (.arraylength, 1) := by decide +kernel
theorem dX0_hasRun_14 : decode cX0_hasRun 14 = .ok (.iload_n 2, 1) := by decide +kernel
theorem dX0_hasRun_15 : decode cX0_hasRun 15 = .ok (.isub, 1) := by decide +kernel
theorem dX0_hasRun_16 : decode cX0_hasRun 16 = .ok (.if_icmp .gt 7, 3) := by decide +kernel
theorem dX0_hasRun_19 : decode cX0_hasRun 19 = .ok (.iconst 1, 1) := by decide +kernel
theorem dX0_hasRun_20 : decode cX0_hasRun 20 = .ok (.goto 4, 3) := by decide +kernel
theorem dX0_hasRun_23 : decode cX0_hasRun 23 = .ok (.iconst 0, 1) := by decide +kernel
theorem dX0_hasRun_24 : decode cX0_hasRun 24 = .ok (.ireturn, 1) := by decide +kernel
theorem dX0_admits_0 : decode cX0_admits 0 = .ok (.aload_n 0, 1) := by decide +kernel
theorem dX0_admits_1 : decode cX0_admits 1 = .ok (.getfield 9, 3) := by decide +kernel
theorem dX0_admits_4 : decode cX0_admits 4 = .ok (.bipush 7, 2) := by decide +kernel
theorem dX0_admits_6 : decode cX0_admits 6 = .ok (.if_icmp .ne 14, 3) := by decide +kernel
theorem dX0_admits_9 : decode cX0_admits 9 = .ok (.iload_n 1, 1) := by decide +kernel
theorem dX0_admits_10 : decode cX0_admits 10 = .ok (.iconst 2, 1) := by decide +kernel
theorem dX0_admits_11 : decode cX0_admits 11 = .ok (.if_icmp .eq 7, 3) := by decide +kernel
theorem dX0_admits_14 : decode cX0_admits 14 = .ok (.iconst 1, 1) := by decide +kernel
theorem dX0_admits_15 : decode cX0_admits 15 = .ok (.goto 4, 3) := by decide +kernel
theorem dX0_admits_18 : decode cX0_admits 18 = .ok (.iconst 0, 1) := by decide +kernel
theorem dX0_admits_19 : decode cX0_admits 19 = .ok (.ireturn, 1) := by decide +kernel
theorem dX0_admits_20 : decode cX0_admits 20 = .ok (.aload_n 0, 1) := by decide +kernel
theorem dX0_admits_21 : decode cX0_admits 21 = .ok (.getfield 9, 3) := by decide +kernel
theorem dX0_admits_24 : decode cX0_admits 24 = .ok (.bipush 8, 2) := by decide +kernel
theorem dX0_admits_26 : decode cX0_admits 26 = .ok (.if_icmp .ne 8, 3) := by decide +kernel
theorem dX0_admits_29 : decode cX0_admits 29 = .ok (.iload_n 1, 1) := by decide +kernel
theorem dX0_admits_30 : decode cX0_admits 30 = .ok (.iconst 1, 1) := by decide +kernel
theorem dX0_admits_31 : decode cX0_admits 31 = .ok (.if_icmp .eq 7, 3) := by decide +kernel
theorem dX0_admits_34 : decode cX0_admits 34 = .ok (.iconst 1, 1) := by decide +kernel
theorem dX0_admits_35 : decode cX0_admits 35 = .ok (.goto 4, 3) := by decide +kernel
theorem dX0_admits_38 : decode cX0_admits 38 = .ok (.iconst 0, 1) := by decide +kernel
theorem dX0_admits_39 : decode cX0_admits 39 = .ok (.ireturn, 1) := by decide +kernel
theorem dX0_cut_0 : decode cX0_cut 0 = .ok (.aload_n 0, 1) := by decide +kernel
theorem dX0_cut_1 : decode cX0_cut 1 = .ok (.getfield 9, 3) := by decide +kernel
theorem dX0_cut_4 : decode cX0_cut 4 = .ok (.tableswitch 63 0 5 #[40, 45, 50, 55, 63, 59], 40) := by decide +kernel
theorem dX0_cut_44 : decode cX0_cut 44 = .ok (.lload_n 1, 1) := by decide +kernel
theorem dX0_cut_45 : decode cX0_cut 45 = .ok (.l2i, 1) := by decide +kernel
theorem dX0_cut_46 : decode cX0_cut 46 = .ok (.i2b, 1) := by decide +kernel
theorem dX0_cut_47 : decode cX0_cut 47 = .ok (.i2l, 1) := by decide +kernel
theorem dX0_cut_48 : decode cX0_cut 48 = .ok (.lreturn, 1) := by decide +kernel
theorem dX0_cut_49 : decode cX0_cut 49 = .ok (.lload_n 1, 1) := by decide +kernel
theorem dX0_cut_50 : decode cX0_cut 50 = .ok (.l2i, 1) := by decide +kernel
theorem dX0_cut_51 : decode cX0_cut 51 = .ok (.i2c, 1) := by decide +kernel
theorem dX0_cut_52 : decode cX0_cut 52 = .ok (.i2l, 1) := by decide +kernel
theorem dX0_cut_53 : decode cX0_cut 53 = .ok (.lreturn, 1) := by decide +kernel
theorem dX0_cut_54 : decode cX0_cut 54 = .ok (.lload_n 1, 1) := by decide +kernel
theorem dX0_cut_55 : decode cX0_cut 55 = .ok (.l2i, 1) := by decide +kernel
theorem dX0_cut_56 : decode cX0_cut 56 = .ok (.i2s, 1) := by decide +kernel
theorem dX0_cut_57 : decode cX0_cut 57 = .ok (.i2l, 1) := by decide +kernel
theorem dX0_cut_58 : decode cX0_cut 58 = .ok (.lreturn, 1) := by decide +kernel
theorem dX0_cut_59 : decode cX0_cut 59 = .ok (.lload_n 1, 1) := by decide +kernel
theorem dX0_cut_60 : decode cX0_cut 60 = .ok (.l2i, 1) := by decide +kernel
theorem dX0_cut_61 : decode cX0_cut 61 = .ok (.i2l, 1) := by decide +kernel
theorem dX0_cut_62 : decode cX0_cut 62 = .ok (.lreturn, 1) := by decide +kernel
theorem dX0_cut_63 : decode cX0_cut 63 = .ok (.lload_n 1, 1) := by decide +kernel
theorem dX0_cut_64 : decode cX0_cut 64 = .ok (.lconst 1, 1) := by decide +kernel
theorem dX0_cut_65 : decode cX0_cut 65 = .ok (.land, 1) := by decide +kernel
theorem dX0_cut_66 : decode cX0_cut 66 = .ok (.lreturn, 1) := by decide +kernel
theorem dX0_cut_67 : decode cX0_cut 67 = .ok (.lload_n 1, 1) := by decide +kernel
theorem dX0_cut_68 : decode cX0_cut 68 = .ok (.lreturn, 1) := by decide +kernel
set_option maxRecDepth 20000 in
theorem ggX0_paint_X0_admits : GoodIn wsX0_paint wsX0_admits := goodIn_r _ [7, 8, 9, 10, 11] (by decide +kernel) (by decide +kernel)
set_option maxRecDepth 20000 in
theorem gX0_paint_X0_admits : GoodIn wsX0_paint (wsV RX0 30 RX0 yX0_admits wsX0_admits) := goodIn_app (goodIn_of _ (by decide +kernel)) ggX0_paint_X0_admits
theorem dX0_paint_0 : decode cX0_paint 0 = .ok (.aload_n 0, 1) := by decide +kernel
theorem dX0_paint_1 : decode cX0_paint 1 = .ok (.iload_n 2, 1) := by decide +kernel
theorem dX0_paint_2 : decode cX0_paint 2 = .ok (.invokevirtual 30, 3) := by decide +kernel
theorem dX0_paint_5 : decode cX0_paint 5 = .ok (.ifCond .ne 5, 3) := by decide +kernel
theorem dX0_paint_8 : decode cX0_paint 8 = .ok (.iconst 0, 1) := by decide +kernel
theorem dX0_paint_9 : decode cX0_paint 9 = .ok (.ireturn, 1) := by decide +kernel
theorem dX0_paint_10 : decode cX0_paint 10 = .ok (.aload_n 0, 1) := by decide +kernel
theorem dX0_paint_11 : decode cX0_paint 11 = .ok (.getfield 19, 3) := by decide +kernel
theorem dX0_paint_14 : decode cX0_paint 14 = .ok (.iload_n 1, 1) := by decide +kernel
theorem dX0_paint_15 : decode cX0_paint 15 = .ok (.iload_n 2, 1) := by decide +kernel
theorem dX0_paint_16 : decode cX0_paint 16 = .ok (.iastore, 1) := by decide +kernel
theorem dX0_paint_17 : decode cX0_paint 17 = .ok (.aload_n 0, 1) := by decide +kernel
theorem dX0_paint_18 : decode cX0_paint 18 = .ok (.getfield 15, 3) := by decide +kernel
theorem dX0_paint_21 : decode cX0_paint 21 = .ok (.iload_n 1, 1) := by decide +kernel
theorem dX0_paint_22 : decode cX0_paint 22 = .ok (.iload_n 2, 1) := by decide +kernel
theorem dX0_paint_23 : decode cX0_paint 23 = .ok (.ifCond .ne 7, 3) := by decide +kernel
theorem dX0_paint_26 : decode cX0_paint 26 = .ok (.lconst 0, 1) := by decide +kernel
theorem dX0_paint_27 : decode cX0_paint 27 = .ok (.goto 6, 3) := by decide +kernel
theorem dX0_paint_30 : decode cX0_paint 30 = .ok (.lload_n 3, 1) := by decide +kernel
theorem dX0_paint_31 : decode cX0_paint 31 = .ok (.l2i, 1) := by decide +kernel
theorem dX0_paint_32 : decode cX0_paint 32 = .ok (.i2l, 1) := by decide +kernel
theorem dX0_paint_33 : decode cX0_paint 33 = .ok (.lastore, 1) := by decide +kernel
theorem dX0_paint_34 : decode cX0_paint 34 = .ok (.iconst 1, 1) := by decide +kernel
theorem dX0_paint_35 : decode cX0_paint 35 = .ok (.ireturn, 1) := by decide +kernel
set_option maxRecDepth 20000 in
theorem ggX0_signAt_X0_hasPictures : GoodIn wsX0_signAt wsX0_hasPictures := goodIn_r _ [8, 9, 10, 11, 12] (by decide +kernel) (by decide +kernel)
set_option maxRecDepth 20000 in
theorem gX0_signAt_X0_hasPictures : GoodIn wsX0_signAt (wsV RX0 27 RX0 yX0_hasPictures wsX0_hasPictures) := goodIn_app (goodIn_of _ (by decide +kernel)) ggX0_signAt_X0_hasPictures
theorem dX0_signAt_0 : decode cX0_signAt 0 = .ok (.aload_n 0, 1) := by decide +kernel
theorem dX0_signAt_1 : decode cX0_signAt 1 = .ok (.invokevirtual 27, 3) := by decide +kernel
theorem dX0_signAt_4 : decode cX0_signAt 4 = .ok (.ifCond .eq 24, 3) := by decide +kernel
theorem dX0_signAt_7 : decode cX0_signAt 7 = .ok (.ldc2_w 34, 3) := by decide +kernel
theorem dX0_signAt_10 : decode cX0_signAt 10 = .ok (.aload_n 0, 1) := by decide +kernel
theorem dX0_signAt_11 : decode cX0_signAt 11 = .ok (.getfield 15, 3) := by decide +kernel
theorem dX0_signAt_14 : decode cX0_signAt 14 = .ok (.iload_n 1, 1) := by decide +kernel
theorem dX0_signAt_15 : decode cX0_signAt 15 = .ok (.laload, 1) := by decide +kernel
theorem dX0_signAt_16 : decode cX0_signAt 16 = .ok (.lmul, 1) := by decide +kernel
theorem dX0_signAt_17 : decode cX0_signAt 17 = .ok (.aload_n 0, 1) := by decide +kernel
theorem dX0_signAt_18 : decode cX0_signAt 18 = .ok (.getfield 19, 3) := by decide +kernel
theorem dX0_signAt_21 : decode cX0_signAt 21 = .ok (.iload_n 1, 1) := by decide +kernel
theorem dX0_signAt_22 : decode cX0_signAt 22 = .ok (.iaload, 1) := by decide +kernel
theorem dX0_signAt_23 : decode cX0_signAt 23 = .ok (.i2l, 1) := by decide +kernel
theorem dX0_signAt_24 : decode cX0_signAt 24 = .ok (.ladd, 1) := by decide +kernel
theorem dX0_signAt_25 : decode cX0_signAt 25 = .ok (.goto 9, 3) := by decide +kernel
theorem dX0_signAt_28 : decode cX0_signAt 28 = .ok (.aload_n 0, 1) := by decide +kernel
theorem dX0_signAt_29 : decode cX0_signAt 29 = .ok (.getfield 15, 3) := by decide +kernel
theorem dX0_signAt_32 : decode cX0_signAt 32 = .ok (.iload_n 1, 1) := by decide +kernel
theorem dX0_signAt_33 : decode cX0_signAt 33 = .ok (.laload, 1) := by decide +kernel
theorem dX0_signAt_34 : decode cX0_signAt 34 = .ok (.lreturn, 1) := by decide +kernel
set_option maxRecDepth 20000 in
theorem ggX0_fittingOf_X0_admits : GoodIn wsX0_fittingOf wsX0_admits := goodIn_r _ [6, 7, 8, 9, 10] (by decide +kernel) (by decide +kernel)
set_option maxRecDepth 20000 in
theorem gX0_fittingOf_X0_admits : GoodIn wsX0_fittingOf (wsV RX0 30 RX0 yX0_admits wsX0_admits) := goodIn_app (goodIn_of _ (by decide +kernel)) ggX0_fittingOf_X0_admits
theorem dX0_fittingOf_0 : decode cX0_fittingOf 0 = .ok (.iconst 0, 1) := by decide +kernel
theorem dX0_fittingOf_1 : decode cX0_fittingOf 1 = .ok (.istore 4, 2) := by decide +kernel
theorem dX0_fittingOf_3 : decode cX0_fittingOf 3 = .ok (.iload 4, 2) := by decide +kernel
theorem dX0_fittingOf_5 : decode cX0_fittingOf 5 = .ok (.iload_n 3, 1) := by decide +kernel
theorem dX0_fittingOf_6 : decode cX0_fittingOf 6 = .ok (.if_icmp .ge 28, 3) := by decide +kernel
theorem dX0_fittingOf_9 : decode cX0_fittingOf 9 = .ok (.aload_n 0, 1) := by decide +kernel
theorem dX0_fittingOf_10 : decode cX0_fittingOf 10 = .ok (.aload_n 1, 1) := by decide +kernel
theorem dX0_fittingOf_11 : decode cX0_fittingOf 11 = .ok (.getfield 19, 3) := by decide +kernel
theorem dX0_fittingOf_14 : decode cX0_fittingOf 14 = .ok (.iload_n 2, 1) := by decide +kernel
theorem dX0_fittingOf_15 : decode cX0_fittingOf 15 = .ok (.iload 4, 2) := by decide +kernel
theorem dX0_fittingOf_17 : decode cX0_fittingOf 17 = .ok (.iadd, 1) := by decide +kernel
theorem dX0_fittingOf_18 : decode cX0_fittingOf 18 = .ok (.iaload, 1) := by decide +kernel
theorem dX0_fittingOf_19 : decode cX0_fittingOf 19 = .ok (.invokevirtual 30, 3) := by decide +kernel
theorem dX0_fittingOf_22 : decode cX0_fittingOf 22 = .ok (.ifCond .ne 6, 3) := by decide +kernel
theorem dX0_fittingOf_25 : decode cX0_fittingOf 25 = .ok (.iload 4, 2) := by decide +kernel
theorem dX0_fittingOf_27 : decode cX0_fittingOf 27 = .ok (.ireturn, 1) := by decide +kernel
theorem dX0_fittingOf_28 : decode cX0_fittingOf 28 = .ok (.iinc 4 1, 3) := by decide +kernel
theorem dX0_fittingOf_31 : decode cX0_fittingOf 31 = .ok (.goto (-28), 3) := by decide +kernel
theorem dX0_fittingOf_34 : decode cX0_fittingOf 34 = .ok (.iload_n 3, 1) := by decide +kernel
theorem dX0_fittingOf_35 : decode cX0_fittingOf 35 = .ok (.ireturn, 1) := by decide +kernel
theorem dX0_take_0 : decode cX0_take 0 = .ok (.aload_n 1, 1) := by decide +kernel
theorem dX0_take_1 : decode cX0_take 1 = .ok (.getfield 15, 3) := by decide +kernel
theorem dX0_take_4 : decode cX0_take 4 = .ok (.iload_n 2, 1) := by decide +kernel
theorem dX0_take_5 : decode cX0_take 5 = .ok (.aload_n 0, 1) := by decide +kernel
theorem dX0_take_6 : decode cX0_take 6 = .ok (.getfield 15, 3) := by decide +kernel
theorem dX0_take_9 : decode cX0_take 9 = .ok (.iload_n 3, 1) := by decide +kernel
theorem dX0_take_10 : decode cX0_take 10 = .ok (.iload 4, 2) := by decide +kernel
theorem dX0_take_12 : decode cX0_take 12 = .ok (.invokestatic 36, 3) := by decide +kernel
theorem dX0_take_15 : decode cX0_take 15 = .ok (.aload_n 1, 1) := by decide +kernel
theorem dX0_take_16 : decode cX0_take 16 = .ok (.getfield 19, 3) := by decide +kernel
theorem dX0_take_19 : decode cX0_take 19 = .ok (.iload_n 2, 1) := by decide +kernel
theorem dX0_take_20 : decode cX0_take 20 = .ok (.aload_n 0, 1) := by decide +kernel
theorem dX0_take_21 : decode cX0_take 21 = .ok (.getfield 19, 3) := by decide +kernel
theorem dX0_take_24 : decode cX0_take 24 = .ok (.iload_n 3, 1) := by decide +kernel
theorem dX0_take_25 : decode cX0_take 25 = .ok (.iload 4, 2) := by decide +kernel
theorem dX0_take_27 : decode cX0_take 27 = .ok (.invokestatic 36, 3) := by decide +kernel
theorem dX0_take_30 : decode cX0_take 30 = .ok (.return_, 1) := by decide +kernel
theorem dX1_init_0 : decode cX1_init 0 = .ok (.aload_n 0, 1) := by decide +kernel
theorem dX1_init_1 : decode cX1_init 1 = .ok (.invokespecial 3, 3) := by decide +kernel
theorem dX1_init_4 : decode cX1_init 4 = .ok (.aload_n 0, 1) := by decide +kernel
theorem dX1_init_5 : decode cX1_init 5 = .ok (.bipush 16, 2) := by decide +kernel
theorem dX1_init_7 : decode cX1_init 7 = .ok (.newarray .int, 2) := by decide +kernel
theorem dX1_init_9 : decode cX1_init 9 = .ok (.putfield 9, 3) := by decide +kernel
theorem dX1_init_12 : decode cX1_init 12 = .ok (.aload_n 0, 1) := by decide +kernel
theorem dX1_init_13 : decode cX1_init 13 = .ok (.bipush 16, 2) := by decide +kernel
theorem dX1_init_15 : decode cX1_init 15 = .ok (.newarray .int, 2) := by decide +kernel
theorem dX1_init_17 : decode cX1_init 17 = .ok (.putfield 15, 3) := by decide +kernel
theorem dX1_init_20 : decode cX1_init 20 = .ok (.aload_n 0, 1) := by decide +kernel
theorem dX1_init_21 : decode cX1_init 21 = .ok (.bipush 16, 2) := by decide +kernel
theorem dX1_init_23 : decode cX1_init 23 = .ok (.newarray .int, 2) := by decide +kernel
theorem dX1_init_25 : decode cX1_init 25 = .ok (.putfield 18, 3) := by decide +kernel
theorem dX1_init_28 : decode cX1_init 28 = .ok (.aload_n 0, 1) := by decide +kernel
theorem dX1_init_29 : decode cX1_init 29 = .ok (.bipush 16, 2) := by decide +kernel
theorem dX1_init_31 : decode cX1_init 31 = .ok (.newarray .int, 2) := by decide +kernel
theorem dX1_init_33 : decode cX1_init 33 = .ok (.putfield 21, 3) := by decide +kernel
theorem dX1_init_36 : decode cX1_init 36 = .ok (.return_, 1) := by decide +kernel
theorem dX1_has_0 : decode cX1_has 0 = .ok (.iload_n 1, 1) := by decide +kernel
theorem dX1_has_1 : decode cX1_has 1 = .ok (.ifCond .lt 15, 3) := by decide +kernel
theorem dX1_has_4 : decode cX1_has 4 = .ok (.iload_n 1, 1) := by decide +kernel
theorem dX1_has_5 : decode cX1_has 5 = .ok (.aload_n 0, 1) := by decide +kernel
theorem dX1_has_6 : decode cX1_has 6 = .ok (.getfield 24, 3) := by decide +kernel
theorem dX1_has_9 : decode cX1_has 9 = .ok (.if_icmp .ge 7, 3) := by decide +kernel
theorem dX1_has_12 : decode cX1_has 12 = .ok (.iconst 1, 1) := by decide +kernel
theorem dX1_has_13 : decode cX1_has 13 = .ok (.goto 4, 3) := by decide +kernel
theorem dX1_has_16 : decode cX1_has 16 = .ok (.iconst 0, 1) := by decide +kernel
theorem dX1_has_17 : decode cX1_has 17 = .ok (.ireturn, 1) := by decide +kernel
set_option maxRecDepth 20000 in
theorem ggX1_rowOf_J9_floorMod_7cf53 : GoodIn wsX1_rowOf wsJ9_floorMod_7cf53 := goodIn_r _ [5] (by decide +kernel) (by decide +kernel)
set_option maxRecDepth 20000 in
theorem gX1_rowOf_J9_floorMod_7cf53 : GoodIn wsX1_rowOf (va_wsS RX1 31 yJ9_floorMod_7cf53 wsJ9_floorMod_7cf53) := goodIn_app (goodIn_of _ (by decide +kernel)) ggX1_rowOf_J9_floorMod_7cf53
theorem dX1_rowOf_0 : decode cX1_rowOf 0 = .ok (.aload_n 0, 1) := by decide +kernel
theorem dX1_rowOf_1 : decode cX1_rowOf 1 = .ok (.getfield 28, 3) := by decide +kernel
theorem dX1_rowOf_4 : decode cX1_rowOf 4 = .ok (.iconst 1, 1) := by decide +kernel
theorem dX1_rowOf_5 : decode cX1_rowOf 5 = .ok (.isub, 1) := by decide +kernel
theorem dX1_rowOf_6 : decode cX1_rowOf 6 = .ok (.iload_n 1, 1) := by decide +kernel
theorem dX1_rowOf_7 : decode cX1_rowOf 7 = .ok (.isub, 1) := by decide +kernel
theorem dX1_rowOf_8 : decode cX1_rowOf 8 = .ok (.bipush 16, 2) := by decide +kernel
theorem dX1_rowOf_10 : decode cX1_rowOf 10 = .ok (.invokestatic 31, 3) := by decide +kernel
theorem dX1_rowOf_13 : decode cX1_rowOf 13 = .ok (.ireturn, 1) := by decide +kernel
theorem dX1_add_0 : decode cX1_add 0 = .ok (.aload_n 0, 1) := by decide +kernel
theorem dX1_add_1 : decode cX1_add 1 = .ok (.getfield 9, 3) := by decide +kernel
theorem dX1_add_4 : decode cX1_add 4 = .ok (.aload_n 0, 1) := by decide +kernel
theorem dX1_add_5 : decode cX1_add 5 = .ok (.getfield 28, 3) := by decide +kernel
theorem dX1_add_8 : decode cX1_add 8 = .ok (.aload_n 1, 1) := by decide +kernel
theorem dX1_add_9 : decode cX1_add 9 = .ok (.getfield 37, 3) := by decide +kernel
theorem dX1_add_12 : decode cX1_add 12 = .ok (.iastore, 1) := by decide +kernel
theorem dX1_add_13 : decode cX1_add 13 = .ok (.aload_n 0, 1) := by decide +kernel
theorem dX1_add_14 : decode cX1_add 14 = .ok (.getfield 15, 3) := by decide +kernel
theorem dX1_add_17 : decode cX1_add 17 = .ok (.aload_n 0, 1) := by decide +kernel
theorem dX1_add_18 : decode cX1_add 18 = .ok (.getfield 28, 3) := by decide +kernel
theorem dX1_add_21 : decode cX1_add 21 = .ok (.aload_n 1, 1) := by decide +kernel
theorem dX1_add_22 : decode cX1_add 22 = .ok (.getfield 42, 3) := by decide +kernel
theorem dX1_add_25 : decode cX1_add 25 = .ok (.iastore, 1) := by decide +kernel
theorem dX1_add_26 : decode cX1_add 26 = .ok (.aload_n 0, 1) := by decide +kernel
theorem dX1_add_27 : decode cX1_add 27 = .ok (.getfield 18, 3) := by decide +kernel
theorem dX1_add_30 : decode cX1_add 30 = .ok (.aload_n 0, 1) := by decide +kernel
theorem dX1_add_31 : decode cX1_add 31 = .ok (.getfield 28, 3) := by decide +kernel
theorem dX1_add_34 : decode cX1_add 34 = .ok (.aload_n 1, 1) := by decide +kernel
theorem dX1_add_35 : decode cX1_add 35 = .ok (.getfield 45, 3) := by decide +kernel
theorem dX1_add_38 : decode cX1_add 38 = .ok (.iastore, 1) := by decide +kernel
theorem dX1_add_39 : decode cX1_add 39 = .ok (.aload_n 0, 1) := by decide +kernel
theorem dX1_add_40 : decode cX1_add 40 = .ok (.getfield 21, 3) := by decide +kernel
theorem dX1_add_43 : decode cX1_add 43 = .ok (.aload_n 0, 1) := by decide +kernel
theorem dX1_add_44 : decode cX1_add 44 = .ok (.getfield 28, 3) := by decide +kernel
theorem dX1_add_47 : decode cX1_add 47 = .ok (.iload_n 2, 1) := by decide +kernel
theorem dX1_add_48 : decode cX1_add 48 = .ok (.iastore, 1) := by decide +kernel
theorem dX1_add_49 : decode cX1_add 49 = .ok (.aload_n 0, 1) := by decide +kernel
theorem dX1_add_50 : decode cX1_add 50 = .ok (.aload_n 0, 1) := by decide +kernel
theorem dX1_add_51 : decode cX1_add 51 = .ok (.getfield 28, 3) := by decide +kernel
theorem dX1_add_54 : decode cX1_add 54 = .ok (.iconst 1, 1) := by decide +kernel
theorem dX1_add_55 : decode cX1_add 55 = .ok (.iadd, 1) := by decide +kernel
theorem dX1_add_56 : decode cX1_add 56 = .ok (.bipush 16, 2) := by decide +kernel
theorem dX1_add_58 : decode cX1_add 58 = .ok (.irem, 1) := by decide +kernel
theorem dX1_add_59 : decode cX1_add 59 = .ok (.putfield 28, 3) := by decide +kernel
theorem dX1_add_62 : decode cX1_add 62 = .ok (.aload_n 0, 1) := by decide +kernel
theorem dX1_add_63 : decode cX1_add 63 = .ok (.bipush 16, 2) := by decide +kernel
theorem dX1_add_65 : decode cX1_add 65 = .ok (.aload_n 0, 1) := by decide +kernel
theorem dX1_add_66 : decode cX1_add 66 = .ok (.getfield 24, 3) := by decide +kernel
theorem dX1_add_69 : decode cX1_add 69 = .ok (.iconst 1, 1) := by decide +kernel
theorem dX1_add_70 : decode cX1_add 70 = .ok (.iadd, 1) := by decide +kernel
theorem dX1_add_71 : decode cX1_add 71 = .ok (.invokestatic 48, 3) := by decide +kernel
theorem dX1_add_74 : decode cX1_add 74 = .ok (.putfield 24, 3) := by decide +kernel
theorem dX1_add_77 : decode cX1_add 77 = .ok (.return_, 1) := by decide +kernel
theorem dX2_init_0 : decode cX2_init 0 = .ok (.aload_n 0, 1) := by decide +kernel
theorem dX2_init_1 : decode cX2_init 1 = .ok (.invokespecial 1, 3) := by decide +kernel
theorem dX2_init_4 : decode cX2_init 4 = .ok (.aload_n 0, 1) := by decide +kernel
theorem dX2_init_5 : decode cX2_init 5 = .ok (.iload_n 1, 1) := by decide +kernel
theorem dX2_init_6 : decode cX2_init 6 = .ok (.putfield 7, 3) := by decide +kernel
theorem dX2_init_9 : decode cX2_init 9 = .ok (.aload_n 0, 1) := by decide +kernel
theorem dX2_init_10 : decode cX2_init 10 = .ok (.iload_n 2, 1) := by decide +kernel
theorem dX2_init_11 : decode cX2_init 11 = .ok (.putfield 13, 3) := by decide +kernel
theorem dX2_init_14 : decode cX2_init 14 = .ok (.aload_n 0, 1) := by decide +kernel
theorem dX2_init_15 : decode cX2_init 15 = .ok (.iload_n 3, 1) := by decide +kernel
theorem dX2_init_16 : decode cX2_init 16 = .ok (.putfield 16, 3) := by decide +kernel
theorem dX2_init_19 : decode cX2_init 19 = .ok (.aload_n 0, 1) := by decide +kernel
theorem dX2_init_20 : decode cX2_init 20 = .ok (.iload 4, 2) := by decide +kernel
theorem dX2_init_22 : decode cX2_init 22 = .ok (.putfield 19, 3) := by decide +kernel
theorem dX2_init_25 : decode cX2_init 25 = .ok (.aload_n 0, 1) := by decide +kernel
theorem dX2_init_26 : decode cX2_init 26 = .ok (.iload 5, 2) := by decide +kernel
theorem dX2_init_28 : decode cX2_init 28 = .ok (.putfield 22, 3) := by decide +kernel
theorem dX2_init_31 : decode cX2_init 31 = .ok (.aload_n 0, 1) := by decide +kernel
theorem dX2_init_32 : decode cX2_init 32 = .ok (.iload 6, 2) := by decide +kernel
theorem dX2_init_34 : decode cX2_init 34 = .ok (.putfield 25, 3) := by decide +kernel
theorem dX2_init_37 : decode cX2_init 37 = .ok (.return_, 1) := by decide +kernel
theorem dX3_init_0 : decode cX3_init 0 = .ok (.aload_n 0, 1) := by decide +kernel
theorem dX3_init_1 : decode cX3_init 1 = .ok (.invokespecial 3, 3) := by decide +kernel
theorem dX3_init_4 : decode cX3_init 4 = .ok (.aload_n 0, 1) := by decide +kernel
theorem dX3_init_5 : decode cX3_init 5 = .ok (.bipush 100, 2) := by decide +kernel
theorem dX3_init_7 : decode cX3_init 7 = .ok (.putfield 9, 3) := by decide +kernel
theorem dX3_init_10 : decode cX3_init 10 = .ok (.aload_n 0, 1) := by decide +kernel
theorem dX3_init_11 : decode cX3_init 11 = .ok (.bipush 8, 2) := by decide +kernel
theorem dX3_init_13 : decode cX3_init 13 = .ok (.anewarray 15, 3) := by decide +kernel
theorem dX3_init_16 : decode cX3_init 16 = .ok (.putfield 17, 3) := by decide +kernel
theorem dX3_init_19 : decode cX3_init 19 = .ok (.return_, 1) := by decide +kernel
theorem dX3_use_0 : decode cX3_use 0 = .ok (.aload_n 0, 1) := by decide +kernel
theorem dX3_use_1 : decode cX3_use 1 = .ok (.dup, 1) := by decide +kernel
theorem dX3_use_2 : decode cX3_use 2 = .ok (.getfield 9, 3) := by decide +kernel
theorem dX3_use_5 : decode cX3_use 5 = .ok (.iload_n 1, 1) := by decide +kernel
theorem dX3_use_6 : decode cX3_use 6 = .ok (.isub, 1) := by decide +kernel
theorem dX3_use_7 : decode cX3_use 7 = .ok (.putfield 9, 3) := by decide +kernel
theorem dX3_use_10 : decode cX3_use 10 = .ok (.aload_n 0, 1) := by decide +kernel
theorem dX3_use_11 : decode cX3_use 11 = .ok (.dup, 1) := by decide +kernel
theorem dX3_use_12 : decode cX3_use 12 = .ok (.getfield 21, 3) := by decide +kernel
theorem dX3_use_15 : decode cX3_use 15 = .ok (.iload_n 1, 1) := by decide +kernel
theorem dX3_use_16 : decode cX3_use 16 = .ok (.iadd, 1) := by decide +kernel
theorem dX3_use_17 : decode cX3_use 17 = .ok (.putfield 21, 3) := by decide +kernel
theorem dX3_use_20 : decode cX3_use 20 = .ok (.return_, 1) := by decide +kernel
theorem dX3_addOrder_0 : decode cX3_addOrder 0 = .ok (.aload_n 0, 1) := by decide +kernel
theorem dX3_addOrder_1 : decode cX3_addOrder 1 = .ok (.getfield 24, 3) := by decide +kernel
theorem dX3_addOrder_4 : decode cX3_addOrder 4 = .ok (.bipush 8, 2) := by decide +kernel
theorem dX3_addOrder_6 : decode cX3_addOrder 6 = .ok (.if_icmp .lt 6, 3) := by decide +kernel
theorem dX3_addOrder_9 : decode cX3_addOrder 9 = .ok (.bipush (-99), 2) := by decide +kernel
theorem dX3_addOrder_11 : decode cX3_addOrder 11 = .ok (.ireturn, 1) := by decide +kernel
theorem dX3_addOrder_12 : decode cX3_addOrder 12 = .ok (.aload_n 0, 1) := by decide +kernel
theorem dX3_addOrder_13 : decode cX3_addOrder 13 = .ok (.getfield 17, 3) := by decide +kernel
theorem dX3_addOrder_16 : decode cX3_addOrder 16 = .ok (.aload_n 0, 1) := by decide +kernel
theorem dX3_addOrder_17 : decode cX3_addOrder 17 = .ok (.getfield 24, 3) := by decide +kernel
theorem dX3_addOrder_20 : decode cX3_addOrder 20 = .ok (.aload_n 1, 1) := by decide +kernel
theorem dX3_addOrder_21 : decode cX3_addOrder 21 = .ok (.aastore, 1) := by decide +kernel
theorem dX3_addOrder_22 : decode cX3_addOrder 22 = .ok (.aload_n 0, 1) := by decide +kernel
theorem dX3_addOrder_23 : decode cX3_addOrder 23 = .ok (.dup, 1) := by decide +kernel
theorem dX3_addOrder_24 : decode cX3_addOrder 24 = .ok (.getfield 24, 3) := by decide +kernel
theorem dX3_addOrder_27 : decode cX3_addOrder 27 = .ok (.iconst 1, 1) := by decide +kernel
theorem dX3_addOrder_28 : decode cX3_addOrder 28 = .ok (.iadd, 1) := by decide +kernel
theorem dX3_addOrder_29 : decode cX3_addOrder 29 = .ok (.putfield 24, 3) := by decide +kernel
theorem dX3_addOrder_32 : decode cX3_addOrder 32 = .ok (.aload_n 0, 1) := by decide +kernel
theorem dX3_addOrder_33 : decode cX3_addOrder 33 = .ok (.getfield 24, 3) := by decide +kernel
theorem dX3_addOrder_36 : decode cX3_addOrder 36 = .ok (.ireturn, 1) := by decide +kernel
theorem dX3_firstOrder_0 : decode cX3_firstOrder 0 = .ok (.aload_n 0, 1) := by decide +kernel
theorem dX3_firstOrder_1 : decode cX3_firstOrder 1 = .ok (.getfield 24, 3) := by decide +kernel
theorem dX3_firstOrder_4 : decode cX3_firstOrder 4 = .ok (.ifCond .le 12, 3) := by decide +kernel
theorem dX3_firstOrder_7 : decode cX3_firstOrder 7 = .ok (.aload_n 0, 1) := by decide +kernel
theorem dX3_firstOrder_8 : decode cX3_firstOrder 8 = .ok (.getfield 17, 3) := by decide +kernel
theorem dX3_firstOrder_11 : decode cX3_firstOrder 11 = .ok (.iconst 0, 1) := by decide +kernel
theorem dX3_firstOrder_12 : decode cX3_firstOrder 12 = .ok (.aaload, 1) := by decide +kernel
theorem dX3_firstOrder_13 : decode cX3_firstOrder 13 = .ok (.goto 4, 3) := by decide +kernel
theorem dX3_firstOrder_16 : decode cX3_firstOrder 16 = .ok (.aconst_null, 1) := by decide +kernel
theorem dX3_firstOrder_17 : decode cX3_firstOrder 17 = .ok (.areturn, 1) := by decide +kernel
theorem dX3_dropFirstOrder_0 : decode cX3_dropFirstOrder 0 = .ok (.iconst 1, 1) := by decide +kernel
theorem dX3_dropFirstOrder_1 : decode cX3_dropFirstOrder 1 = .ok (.istore_n 1, 1) := by decide +kernel
theorem dX3_dropFirstOrder_2 : decode cX3_dropFirstOrder 2 = .ok (.iload_n 1, 1) := by decide +kernel
theorem dX3_dropFirstOrder_3 : decode cX3_dropFirstOrder 3 = .ok (.aload_n 0, 1) := by decide +kernel
theorem dX3_dropFirstOrder_4 : decode cX3_dropFirstOrder 4 = .ok (.getfield 24, 3) := by decide +kernel
theorem dX3_dropFirstOrder_7 : decode cX3_dropFirstOrder 7 = .ok (.if_icmp .ge 23, 3) := by decide +kernel
theorem dX3_dropFirstOrder_10 : decode cX3_dropFirstOrder 10 = .ok (.aload_n 0, 1) := by decide +kernel
theorem dX3_dropFirstOrder_11 : decode cX3_dropFirstOrder 11 = .ok (.getfield 17, 3) := by decide +kernel
theorem dX3_dropFirstOrder_14 : decode cX3_dropFirstOrder 14 = .ok (.iload_n 1, 1) := by decide +kernel
theorem dX3_dropFirstOrder_15 : decode cX3_dropFirstOrder 15 = .ok (.iconst 1, 1) := by decide +kernel
theorem dX3_dropFirstOrder_16 : decode cX3_dropFirstOrder 16 = .ok (.isub, 1) := by decide +kernel
theorem dX3_dropFirstOrder_17 : decode cX3_dropFirstOrder 17 = .ok (.aload_n 0, 1) := by decide +kernel
theorem dX3_dropFirstOrder_18 : decode cX3_dropFirstOrder 18 = .ok (.getfield 17, 3) := by decide +kernel
theorem dX3_dropFirstOrder_21 : decode cX3_dropFirstOrder 21 = .ok (.iload_n 1, 1) := by decide +kernel
theorem dX3_dropFirstOrder_22 : decode cX3_dropFirstOrder 22 = .ok (.aaload, 1) := by decide +kernel
theorem dX3_dropFirstOrder_23 : decode cX3_dropFirstOrder 23 = .ok (.aastore, 1) := by decide +kernel
theorem dX3_dropFirstOrder_24 : decode cX3_dropFirstOrder 24 = .ok (.iinc 1 1, 3) := by decide +kernel
theorem dX3_dropFirstOrder_27 : decode cX3_dropFirstOrder 27 = .ok (.goto (-25), 3) := by decide +kernel
theorem dX3_dropFirstOrder_30 : decode cX3_dropFirstOrder 30 = .ok (.aload_n 0, 1) := by decide +kernel
theorem dX3_dropFirstOrder_31 : decode cX3_dropFirstOrder 31 = .ok (.getfield 24, 3) := by decide +kernel
theorem dX3_dropFirstOrder_34 : decode cX3_dropFirstOrder 34 = .ok (.ifCond .le 23, 3) := by decide +kernel
theorem dX3_dropFirstOrder_37 : decode cX3_dropFirstOrder 37 = .ok (.aload_n 0, 1) := by decide +kernel
theorem dX3_dropFirstOrder_38 : decode cX3_dropFirstOrder 38 = .ok (.dup, 1) := by decide +kernel
theorem dX3_dropFirstOrder_39 : decode cX3_dropFirstOrder 39 = .ok (.getfield 24, 3) := by decide +kernel
end
section
theorem dX3_dropFirstOrder_42 : decode cX3_dropFirstOrder 42 = .ok (.iconst 1, 1) := by decide +kernel
theorem dX3_dropFirstOrder_43 : decode cX3_dropFirstOrder 43 = .ok (.isub, 1) := by decide +kernel
theorem dX3_dropFirstOrder_44 : decode cX3_dropFirstOrder 44 = .ok (.putfield 24, 3) := by decide +kernel
theorem dX3_dropFirstOrder_47 : decode cX3_dropFirstOrder 47 = .ok (.aload_n 0, 1) := by decide +kernel
theorem dX3_dropFirstOrder_48 : decode cX3_dropFirstOrder 48 = .ok (.getfield 17, 3) := by decide +kernel
theorem dX3_dropFirstOrder_51 : decode cX3_dropFirstOrder 51 = .ok (.aload_n 0, 1) := by decide +kernel
theorem dX3_dropFirstOrder_52 : decode cX3_dropFirstOrder 52 = .ok (.getfield 24, 3) := by decide +kernel
theorem dX3_dropFirstOrder_55 : decode cX3_dropFirstOrder 55 = .ok (.aconst_null, 1) := by decide +kernel
theorem dX3_dropFirstOrder_56 : decode cX3_dropFirstOrder 56 = .ok (.aastore, 1) := by decide +kernel
theorem dX3_dropFirstOrder_57 : decode cX3_dropFirstOrder 57 = .ok (.return_, 1) := by decide +kernel
set_option maxRecDepth 20000 in
theorem ggX4_init_X0_init : GoodIn wsX4_init wsX0_init := goodIn_r _ [22, 23, 2, 3, 24, 25, 26, 18, 27, 43, 44, 45] (by decide +kernel) (by decide +kernel)
set_option maxRecDepth 20000 in
theorem gX4_init_X0_init : GoodIn wsX4_init (wsX0_init) := ggX4_init_X0_init
set_option maxRecDepth 20000 in
theorem ggX4_init_X3_init : GoodIn wsX4_init wsX3_init := goodIn_r _ [30, 31, 2, 3, 32, 33, 34, 52, 53, 54, 55] (by decide +kernel) (by decide +kernel)
set_option maxRecDepth 20000 in
theorem gX4_init_X3_init : GoodIn wsX4_init (wsX3_init) := ggX4_init_X3_init
set_option maxRecDepth 20000 in
theorem ggX4_init_X1_init : GoodIn wsX4_init wsX1_init := goodIn_r _ [37, 38, 2, 3, 18, 39, 40, 41, 42, 56, 57, 58, 59, 60, 61] (by decide +kernel) (by decide +kernel)
set_option maxRecDepth 20000 in
theorem gX4_init_X1_init : GoodIn wsX4_init (wsX1_init) := ggX4_init_X1_init
theorem dX4_init_0 : decode cX4_init 0 = .ok (.aload_n 0, 1) := by decide +kernel
theorem dX4_init_1 : decode cX4_init 1 = .ok (.invokespecial 1, 3) := by decide +kernel
theorem dX4_init_4 : decode cX4_init 4 = .ok (.aload_n 0, 1) := by decide +kernel
theorem dX4_init_5 : decode cX4_init 5 = .ok (.new 7, 3) := by decide +kernel
theorem dX4_init_8 : decode cX4_init 8 = .ok (.dup, 1) := by decide +kernel
theorem dX4_init_9 : decode cX4_init 9 = .ok (.iconst (-1), 1) := by decide +kernel
theorem dX4_init_10 : decode cX4_init 10 = .ok (.iconst 0, 1) := by decide +kernel
theorem dX4_init_11 : decode cX4_init 11 = .ok (.invokespecial 11, 3) := by decide +kernel
theorem dX4_init_14 : decode cX4_init 14 = .ok (.putfield 14, 3) := by decide +kernel
theorem dX4_init_17 : decode cX4_init 17 = .ok (.aload_n 0, 1) := by decide +kernel
theorem dX4_init_18 : decode cX4_init 18 = .ok (.new 7, 3) := by decide +kernel
theorem dX4_init_21 : decode cX4_init 21 = .ok (.dup, 1) := by decide +kernel
theorem dX4_init_22 : decode cX4_init 22 = .ok (.bipush (-2), 2) := by decide +kernel
theorem dX4_init_24 : decode cX4_init 24 = .ok (.iconst 0, 1) := by decide +kernel
theorem dX4_init_25 : decode cX4_init 25 = .ok (.invokespecial 11, 3) := by decide +kernel
theorem dX4_init_28 : decode cX4_init 28 = .ok (.putfield 18, 3) := by decide +kernel
theorem dX4_init_31 : decode cX4_init 31 = .ok (.aload_n 0, 1) := by decide +kernel
theorem dX4_init_32 : decode cX4_init 32 = .ok (.bipush 6, 2) := by decide +kernel
theorem dX4_init_34 : decode cX4_init 34 = .ok (.anewarray 7, 3) := by decide +kernel
theorem dX4_init_37 : decode cX4_init 37 = .ok (.putfield 21, 3) := by decide +kernel
theorem dX4_init_40 : decode cX4_init 40 = .ok (.iconst 0, 1) := by decide +kernel
theorem dX4_init_41 : decode cX4_init 41 = .ok (.istore_n 1, 1) := by decide +kernel
theorem dX4_init_42 : decode cX4_init 42 = .ok (.iload_n 1, 1) := by decide +kernel
theorem dX4_init_43 : decode cX4_init 43 = .ok (.bipush 6, 2) := by decide +kernel
theorem dX4_init_45 : decode cX4_init 45 = .ok (.if_icmp .ge 19, 3) := by decide +kernel
theorem dX4_init_48 : decode cX4_init 48 = .ok (.aload_n 0, 1) := by decide +kernel
theorem dX4_init_49 : decode cX4_init 49 = .ok (.getfield 21, 3) := by decide +kernel
theorem dX4_init_52 : decode cX4_init 52 = .ok (.iload_n 1, 1) := by decide +kernel
theorem dX4_init_53 : decode cX4_init 53 = .ok (.aload_n 0, 1) := by decide +kernel
theorem dX4_init_54 : decode cX4_init 54 = .ok (.getfield 14, 3) := by decide +kernel
theorem dX4_init_57 : decode cX4_init 57 = .ok (.aastore, 1) := by decide +kernel
theorem dX4_init_58 : decode cX4_init 58 = .ok (.iinc 1 1, 3) := by decide +kernel
theorem dX4_init_61 : decode cX4_init 61 = .ok (.goto (-19), 3) := by decide +kernel
theorem dX4_init_64 : decode cX4_init 64 = .ok (.aload_n 0, 1) := by decide +kernel
theorem dX4_init_65 : decode cX4_init 65 = .ok (.iconst 3, 1) := by decide +kernel
theorem dX4_init_66 : decode cX4_init 66 = .ok (.anewarray 25, 3) := by decide +kernel
theorem dX4_init_69 : decode cX4_init 69 = .ok (.putfield 27, 3) := by decide +kernel
theorem dX4_init_72 : decode cX4_init 72 = .ok (.iconst 0, 1) := by decide +kernel
theorem dX4_init_73 : decode cX4_init 73 = .ok (.istore_n 1, 1) := by decide +kernel
theorem dX4_init_74 : decode cX4_init 74 = .ok (.iload_n 1, 1) := by decide +kernel
theorem dX4_init_75 : decode cX4_init 75 = .ok (.iconst 3, 1) := by decide +kernel
theorem dX4_init_76 : decode cX4_init 76 = .ok (.if_icmp .ge 22, 3) := by decide +kernel
theorem dX4_init_79 : decode cX4_init 79 = .ok (.aload_n 0, 1) := by decide +kernel
theorem dX4_init_80 : decode cX4_init 80 = .ok (.getfield 27, 3) := by decide +kernel
theorem dX4_init_83 : decode cX4_init 83 = .ok (.iload_n 1, 1) := by decide +kernel
theorem dX4_init_84 : decode cX4_init 84 = .ok (.new 25, 3) := by decide +kernel
theorem dX4_init_87 : decode cX4_init 87 = .ok (.dup, 1) := by decide +kernel
theorem dX4_init_88 : decode cX4_init 88 = .ok (.invokespecial 31, 3) := by decide +kernel
theorem dX4_init_91 : decode cX4_init 91 = .ok (.aastore, 1) := by decide +kernel
theorem dX4_init_92 : decode cX4_init 92 = .ok (.iinc 1 1, 3) := by decide +kernel
theorem dX4_init_95 : decode cX4_init 95 = .ok (.goto (-21), 3) := by decide +kernel
theorem dX4_init_98 : decode cX4_init 98 = .ok (.aload_n 0, 1) := by decide +kernel
theorem dX4_init_99 : decode cX4_init 99 = .ok (.new 32, 3) := by decide +kernel
theorem dX4_init_102 : decode cX4_init 102 = .ok (.dup, 1) := by decide +kernel
theorem dX4_init_103 : decode cX4_init 103 = .ok (.invokespecial 34, 3) := by decide +kernel
theorem dX4_init_106 : decode cX4_init 106 = .ok (.putfield 35, 3) := by decide +kernel
theorem dX4_init_109 : decode cX4_init 109 = .ok (.aload_n 0, 1) := by decide +kernel
theorem dX4_init_110 : decode cX4_init 110 = .ok (.bipush 8, 2) := by decide +kernel
theorem dX4_init_112 : decode cX4_init 112 = .ok (.newarray .int, 2) := by decide +kernel
theorem dX4_init_114 : decode cX4_init 114 = .ok (.putfield 39, 3) := by decide +kernel
theorem dX4_init_117 : decode cX4_init 117 = .ok (.return_, 1) := by decide +kernel
set_option maxRecDepth 20000 in
theorem ggX4_bind_X4_isDesk : GoodIn wsX4_bind wsX4_isDesk := goodIn_r _ [8] (by decide +kernel) (by decide +kernel)
set_option maxRecDepth 20000 in
theorem gX4_bind_X4_isDesk : GoodIn wsX4_bind (va_wsS RX4 43 yX4_isDesk wsX4_isDesk) := goodIn_app (goodIn_of _ (by decide +kernel)) ggX4_bind_X4_isDesk
set_option maxRecDepth 20000 in
theorem ggX4_bind_X0_init : GoodIn wsX4_bind wsX0_init := goodIn_r _ [11, 12, 13, 14, 15, 16, 17, 18, 19, 31, 32, 33] (by decide +kernel) (by decide +kernel)
set_option maxRecDepth 20000 in
theorem gX4_bind_X0_init : GoodIn wsX4_bind (wsX0_init) := ggX4_bind_X0_init
set_option maxRecDepth 20000 in
theorem ggX4_bind_X4_lay : GoodIn wsX4_bind wsX4_lay := goodIn_r _ [23, 24, 5, 6, 7, 8, 25, 26, 27, 28, 29, 30] (by decide +kernel) (by decide +kernel)
set_option maxRecDepth 20000 in
theorem gX4_bind_X4_lay : GoodIn wsX4_bind (wsV RX4 47 RX4 yX4_lay wsX4_lay) := goodIn_app (goodIn_of _ (by decide +kernel)) ggX4_bind_X4_lay
theorem dX4_bind_0 : decode cX4_bind 0 = .ok (.iload_n 1, 1) := by decide +kernel
theorem dX4_bind_1 : decode cX4_bind 1 = .ok (.invokestatic 43, 3) := by decide +kernel
theorem dX4_bind_4 : decode cX4_bind 4 = .ok (.ifCond .eq 13, 3) := by decide +kernel
theorem dX4_bind_7 : decode cX4_bind 7 = .ok (.iload_n 2, 1) := by decide +kernel
theorem dX4_bind_8 : decode cX4_bind 8 = .ok (.ifCond .lt 9, 3) := by decide +kernel
theorem dX4_bind_11 : decode cX4_bind 11 = .ok (.iload_n 2, 1) := by decide +kernel
theorem dX4_bind_12 : decode cX4_bind 12 = .ok (.bipush 8, 2) := by decide +kernel
theorem dX4_bind_14 : decode cX4_bind 14 = .ok (.if_icmp .le 6, 3) := by decide +kernel
theorem dX4_bind_17 : decode cX4_bind 17 = .ok (.bipush (-99), 2) := by decide +kernel
theorem dX4_bind_19 : decode cX4_bind 19 = .ok (.ireturn, 1) := by decide +kernel
theorem dX4_bind_20 : decode cX4_bind 20 = .ok (.iload_n 3, 1) := by decide +kernel
theorem dX4_bind_21 : decode cX4_bind 21 = .ok (.ifCond .lt 9, 3) := by decide +kernel
theorem dX4_bind_24 : decode cX4_bind 24 = .ok (.iload_n 3, 1) := by decide +kernel
theorem dX4_bind_25 : decode cX4_bind 25 = .ok (.bipush 40, 2) := by decide +kernel
theorem dX4_bind_27 : decode cX4_bind 27 = .ok (.if_icmp .le 6, 3) := by decide +kernel
theorem dX4_bind_30 : decode cX4_bind 30 = .ok (.bipush (-99), 2) := by decide +kernel
theorem dX4_bind_32 : decode cX4_bind 32 = .ok (.ireturn, 1) := by decide +kernel
theorem dX4_bind_33 : decode cX4_bind 33 = .ok (.aload_n 0, 1) := by decide +kernel
theorem dX4_bind_34 : decode cX4_bind 34 = .ok (.getfield 39, 3) := by decide +kernel
theorem dX4_bind_37 : decode cX4_bind 37 = .ok (.bipush 7, 2) := by decide +kernel
theorem dX4_bind_39 : decode cX4_bind 39 = .ok (.dup2, 1) := by decide +kernel
theorem dX4_bind_40 : decode cX4_bind 40 = .ok (.iaload, 1) := by decide +kernel
theorem dX4_bind_41 : decode cX4_bind 41 = .ok (.iconst 1, 1) := by decide +kernel
theorem dX4_bind_42 : decode cX4_bind 42 = .ok (.iadd, 1) := by decide +kernel
theorem dX4_bind_43 : decode cX4_bind 43 = .ok (.iastore, 1) := by decide +kernel
theorem dX4_bind_44 : decode cX4_bind 44 = .ok (.aload_n 0, 1) := by decide +kernel
theorem dX4_bind_45 : decode cX4_bind 45 = .ok (.iload_n 1, 1) := by decide +kernel
theorem dX4_bind_46 : decode cX4_bind 46 = .ok (.new 7, 3) := by decide +kernel
theorem dX4_bind_49 : decode cX4_bind 49 = .ok (.dup, 1) := by decide +kernel
theorem dX4_bind_50 : decode cX4_bind 50 = .ok (.iload_n 2, 1) := by decide +kernel
theorem dX4_bind_51 : decode cX4_bind 51 = .ok (.iload_n 3, 1) := by decide +kernel
theorem dX4_bind_52 : decode cX4_bind 52 = .ok (.invokespecial 11, 3) := by decide +kernel
theorem dX4_bind_55 : decode cX4_bind 55 = .ok (.invokevirtual 47, 3) := by decide +kernel
theorem dX4_bind_58 : decode cX4_bind 58 = .ok (.ireturn, 1) := by decide +kernel
set_option maxRecDepth 20000 in
theorem ggX4_stone_X4_lay : GoodIn wsX4_stone wsX4_lay := goodIn_r _ [6, 7, 8, 9, 5, 10, 11, 12, 13, 14, 15, 16] (by decide +kernel) (by decide +kernel)
set_option maxRecDepth 20000 in
theorem gX4_stone_X4_lay : GoodIn wsX4_stone (wsV RX4 47 RX4 yX4_lay wsX4_lay) := goodIn_app (goodIn_of _ (by decide +kernel)) ggX4_stone_X4_lay
theorem dX4_stone_0 : decode cX4_stone 0 = .ok (.aload_n 0, 1) := by decide +kernel
theorem dX4_stone_1 : decode cX4_stone 1 = .ok (.iload_n 1, 1) := by decide +kernel
theorem dX4_stone_2 : decode cX4_stone 2 = .ok (.aload_n 0, 1) := by decide +kernel
theorem dX4_stone_3 : decode cX4_stone 3 = .ok (.getfield 18, 3) := by decide +kernel
theorem dX4_stone_6 : decode cX4_stone 6 = .ok (.invokevirtual 47, 3) := by decide +kernel
theorem dX4_stone_9 : decode cX4_stone 9 = .ok (.ireturn, 1) := by decide +kernel
set_option maxRecDepth 20000 in
theorem ggX4_share_X4_isDesk : GoodIn wsX4_share wsX4_isDesk := goodIn_r _ [5] (by decide +kernel) (by decide +kernel)
set_option maxRecDepth 20000 in
theorem gX4_share_X4_isDesk : GoodIn wsX4_share (va_wsS RX4 43 yX4_isDesk wsX4_isDesk) := goodIn_app (goodIn_of _ (by decide +kernel)) ggX4_share_X4_isDesk
set_option maxRecDepth 20000 in
theorem ggX4_share_X4_lay : GoodIn wsX4_share wsX4_lay := goodIn_r _ [9, 1, 2, 3, 4, 5, 10, 11, 12, 13, 14, 15] (by decide +kernel) (by decide +kernel)
set_option maxRecDepth 20000 in
theorem gX4_share_X4_lay : GoodIn wsX4_share (wsV RX4 47 RX4 yX4_lay wsX4_lay) := goodIn_app (goodIn_of _ (by decide +kernel)) ggX4_share_X4_lay
theorem dX4_share_0 : decode cX4_share 0 = .ok (.iload_n 1, 1) := by decide +kernel
theorem dX4_share_1 : decode cX4_share 1 = .ok (.invokestatic 43, 3) := by decide +kernel
theorem dX4_share_4 : decode cX4_share 4 = .ok (.ifCond .eq 17, 3) := by decide +kernel
theorem dX4_share_7 : decode cX4_share 7 = .ok (.aload_n 0, 1) := by decide +kernel
theorem dX4_share_8 : decode cX4_share 8 = .ok (.iload_n 2, 1) := by decide +kernel
theorem dX4_share_9 : decode cX4_share 9 = .ok (.aload_n 0, 1) := by decide +kernel
theorem dX4_share_10 : decode cX4_share 10 = .ok (.getfield 21, 3) := by decide +kernel
theorem dX4_share_13 : decode cX4_share 13 = .ok (.iload_n 1, 1) := by decide +kernel
theorem dX4_share_14 : decode cX4_share 14 = .ok (.aaload, 1) := by decide +kernel
theorem dX4_share_15 : decode cX4_share 15 = .ok (.invokevirtual 47, 3) := by decide +kernel
theorem dX4_share_18 : decode cX4_share 18 = .ok (.goto 5, 3) := by decide +kernel
theorem dX4_share_21 : decode cX4_share 21 = .ok (.bipush (-99), 2) := by decide +kernel
theorem dX4_share_23 : decode cX4_share 23 = .ok (.ireturn, 1) := by decide +kernel
set_option maxRecDepth 20000 in
theorem ggX4_clear_X4_lay : GoodIn wsX4_clear wsX4_lay := goodIn_r _ [6, 7, 8, 9, 5, 10, 11, 12, 13, 14, 15, 16] (by decide +kernel) (by decide +kernel)
set_option maxRecDepth 20000 in
theorem gX4_clear_X4_lay : GoodIn wsX4_clear (wsV RX4 47 RX4 yX4_lay wsX4_lay) := goodIn_app (goodIn_of _ (by decide +kernel)) ggX4_clear_X4_lay
theorem dX4_clear_0 : decode cX4_clear 0 = .ok (.aload_n 0, 1) := by decide +kernel
theorem dX4_clear_1 : decode cX4_clear 1 = .ok (.iload_n 1, 1) := by decide +kernel
theorem dX4_clear_2 : decode cX4_clear 2 = .ok (.aload_n 0, 1) := by decide +kernel
theorem dX4_clear_3 : decode cX4_clear 3 = .ok (.getfield 14, 3) := by decide +kernel
theorem dX4_clear_6 : decode cX4_clear 6 = .ok (.invokevirtual 47, 3) := by decide +kernel
theorem dX4_clear_9 : decode cX4_clear 9 = .ok (.ireturn, 1) := by decide +kernel
set_option maxRecDepth 20000 in
theorem ggX4_write_X4_isDesk : GoodIn wsX4_write wsX4_isDesk := goodIn_r _ [7] (by decide +kernel) (by decide +kernel)
set_option maxRecDepth 20000 in
theorem gX4_write_X4_isDesk : GoodIn wsX4_write (va_wsS RX4 43 yX4_isDesk wsX4_isDesk) := goodIn_app (goodIn_of _ (by decide +kernel)) ggX4_write_X4_isDesk
set_option maxRecDepth 20000 in
theorem ggX4_write_X0_hasPictures : GoodIn wsX4_write wsX0_hasPictures := goodIn_r _ [12, 13, 42, 43, 44] (by decide +kernel) (by decide +kernel)
set_option maxRecDepth 20000 in
theorem gX4_write_X0_hasPictures : GoodIn wsX4_write (wsV RX4 51 RX0 yX0_hasPictures wsX0_hasPictures) := goodIn_app (goodIn_of _ (by decide +kernel)) ggX4_write_X0_hasPictures
set_option maxRecDepth 20000 in
theorem ggX4_write_X0_isNoBook : GoodIn wsX4_write wsX0_isNoBook := goodIn_r _ [17, 13, 42, 43, 44] (by decide +kernel) (by decide +kernel)
set_option maxRecDepth 20000 in
theorem gX4_write_X0_isNoBook : GoodIn wsX4_write (wsV RX4 55 RX0 yX0_isNoBook wsX0_isNoBook) := goodIn_app (goodIn_of _ (by decide +kernel)) ggX4_write_X0_isNoBook
set_option maxRecDepth 20000 in
theorem ggX4_write_X0_hasPlace : GoodIn wsX4_write wsX0_hasPlace := goodIn_r _ [21, 22, 42, 43, 44] (by decide +kernel) (by decide +kernel)
set_option maxRecDepth 20000 in
theorem gX4_write_X0_hasPlace : GoodIn wsX4_write (wsV RX4 62 RX0 yX0_hasPlace wsX0_hasPlace) := goodIn_app (goodIn_of _ (by decide +kernel)) ggX4_write_X0_hasPlace
set_option maxRecDepth 20000 in
theorem ggX4_write_X0_paint : GoodIn wsX4_write wsX0_paint := goodIn_r _ [26, 27, 22, 28, 29, 30, 11, 31, 13, 42, 43, 44] (by decide +kernel) (by decide +kernel)
set_option maxRecDepth 20000 in
theorem gX4_write_X0_paint : GoodIn wsX4_write (wsV RX4 65 RX0 yX0_paint wsX0_paint) := goodIn_app (goodIn_of _ (by decide +kernel)) ggX4_write_X0_paint
set_option maxRecDepth 20000 in
theorem ggX4_write_X0_cut : GoodIn wsX4_write wsX0_cut := goodIn_r _ [35, 13, 42, 43, 44] (by decide +kernel) (by decide +kernel)
set_option maxRecDepth 20000 in
theorem gX4_write_X0_cut : GoodIn wsX4_write (wsV RX4 73 RX0 yX0_cut wsX0_cut) := goodIn_app (goodIn_of _ (by decide +kernel)) ggX4_write_X0_cut
theorem dX4_write_0 : decode cX4_write 0 = .ok (.iload_n 1, 1) := by decide +kernel
theorem dX4_write_1 : decode cX4_write 1 = .ok (.invokestatic 43, 3) := by decide +kernel
theorem dX4_write_4 : decode cX4_write 4 = .ok (.ifCond .ne 6, 3) := by decide +kernel
theorem dX4_write_7 : decode cX4_write 7 = .ok (.bipush (-99), 2) := by decide +kernel
theorem dX4_write_9 : decode cX4_write 9 = .ok (.ireturn, 1) := by decide +kernel
theorem dX4_write_10 : decode cX4_write 10 = .ok (.aload_n 0, 1) := by decide +kernel
theorem dX4_write_11 : decode cX4_write 11 = .ok (.getfield 21, 3) := by decide +kernel
theorem dX4_write_14 : decode cX4_write 14 = .ok (.iload_n 1, 1) := by decide +kernel
theorem dX4_write_15 : decode cX4_write 15 = .ok (.aaload, 1) := by decide +kernel
theorem dX4_write_16 : decode cX4_write 16 = .ok (.astore 6, 2) := by decide +kernel
theorem dX4_write_18 : decode cX4_write 18 = .ok (.aload 6, 2) := by decide +kernel
theorem dX4_write_20 : decode cX4_write 20 = .ok (.invokevirtual 51, 3) := by decide +kernel
theorem dX4_write_23 : decode cX4_write 23 = .ok (.ifCond .eq 15, 3) := by decide +kernel
theorem dX4_write_26 : decode cX4_write 26 = .ok (.iload_n 3, 1) := by decide +kernel
theorem dX4_write_27 : decode cX4_write 27 = .ok (.ifCond .lt 8, 3) := by decide +kernel
theorem dX4_write_30 : decode cX4_write 30 = .ok (.iload_n 3, 1) := by decide +kernel
theorem dX4_write_31 : decode cX4_write 31 = .ok (.iconst 2, 1) := by decide +kernel
theorem dX4_write_32 : decode cX4_write 32 = .ok (.if_icmp .le 6, 3) := by decide +kernel
theorem dX4_write_35 : decode cX4_write 35 = .ok (.bipush (-99), 2) := by decide +kernel
theorem dX4_write_37 : decode cX4_write 37 = .ok (.ireturn, 1) := by decide +kernel
theorem dX4_write_38 : decode cX4_write 38 = .ok (.aload 6, 2) := by decide +kernel
theorem dX4_write_40 : decode cX4_write 40 = .ok (.invokevirtual 55, 3) := by decide +kernel
theorem dX4_write_43 : decode cX4_write 43 = .ok (.ifCond .eq 9, 3) := by decide +kernel
theorem dX4_write_46 : decode cX4_write 46 = .ok (.aload 6, 2) := by decide +kernel
theorem dX4_write_48 : decode cX4_write 48 = .ok (.getfield 58, 3) := by decide +kernel
theorem dX4_write_51 : decode cX4_write 51 = .ok (.ireturn, 1) := by decide +kernel
theorem dX4_write_52 : decode cX4_write 52 = .ok (.aload 6, 2) := by decide +kernel
theorem dX4_write_54 : decode cX4_write 54 = .ok (.iload_n 2, 1) := by decide +kernel
theorem dX4_write_55 : decode cX4_write 55 = .ok (.invokevirtual 62, 3) := by decide +kernel
theorem dX4_write_58 : decode cX4_write 58 = .ok (.ifCond .ne 6, 3) := by decide +kernel
theorem dX4_write_61 : decode cX4_write 61 = .ok (.bipush (-3), 2) := by decide +kernel
theorem dX4_write_63 : decode cX4_write 63 = .ok (.ireturn, 1) := by decide +kernel
theorem dX4_write_64 : decode cX4_write 64 = .ok (.aload 6, 2) := by decide +kernel
theorem dX4_write_66 : decode cX4_write 66 = .ok (.invokevirtual 51, 3) := by decide +kernel
theorem dX4_write_69 : decode cX4_write 69 = .ok (.ifCond .eq 22, 3) := by decide +kernel
theorem dX4_write_72 : decode cX4_write 72 = .ok (.aload 6, 2) := by decide +kernel
theorem dX4_write_74 : decode cX4_write 74 = .ok (.iload_n 2, 1) := by decide +kernel
theorem dX4_write_75 : decode cX4_write 75 = .ok (.iload_n 3, 1) := by decide +kernel
theorem dX4_write_76 : decode cX4_write 76 = .ok (.lload 4, 2) := by decide +kernel
theorem dX4_write_78 : decode cX4_write 78 = .ok (.invokevirtual 65, 3) := by decide +kernel
theorem dX4_write_81 : decode cX4_write 81 = .ok (.ifCond .eq 7, 3) := by decide +kernel
theorem dX4_write_84 : decode cX4_write 84 = .ok (.iconst 0, 1) := by decide +kernel
theorem dX4_write_85 : decode cX4_write 85 = .ok (.goto 5, 3) := by decide +kernel
theorem dX4_write_88 : decode cX4_write 88 = .ok (.bipush (-10), 2) := by decide +kernel
theorem dX4_write_90 : decode cX4_write 90 = .ok (.ireturn, 1) := by decide +kernel
theorem dX4_write_91 : decode cX4_write 91 = .ok (.aload 6, 2) := by decide +kernel
theorem dX4_write_93 : decode cX4_write 93 = .ok (.getfield 69, 3) := by decide +kernel
theorem dX4_write_96 : decode cX4_write 96 = .ok (.iload_n 2, 1) := by decide +kernel
theorem dX4_write_97 : decode cX4_write 97 = .ok (.aload 6, 2) := by decide +kernel
theorem dX4_write_99 : decode cX4_write 99 = .ok (.lload 4, 2) := by decide +kernel
theorem dX4_write_101 : decode cX4_write 101 = .ok (.invokevirtual 73, 3) := by decide +kernel
theorem dX4_write_104 : decode cX4_write 104 = .ok (.lastore, 1) := by decide +kernel
theorem dX4_write_105 : decode cX4_write 105 = .ok (.iconst 0, 1) := by decide +kernel
theorem dX4_write_106 : decode cX4_write 106 = .ok (.ireturn, 1) := by decide +kernel
set_option maxRecDepth 20000 in
theorem ggX4_copy_X2_init : GoodIn wsX4_copy wsX2_init := goodIn_r _ [6, 7, 8, 9, 10, 11, 12, 13, 14, 15, 115, 116, 117, 118, 119, 120] (by decide +kernel) (by decide +kernel)
set_option maxRecDepth 20000 in
theorem gX4_copy_X2_init : GoodIn wsX4_copy (wsX2_init) := ggX4_copy_X2_init
set_option maxRecDepth 20000 in
theorem ggX4_copy_X4_perform : GoodIn wsX4_copy wsX4_perform := goodIn_r _ [20, 21, 22, 23, 24, 25, 26, 27, 28, 29, 30, 31, 19, 32, 33, 34, 35, 36, 37, 38, 39, 40, 41, 42, 43, 44, 45, 46, 47, 48, 49, 50, 51, 52, 53, 54, 55, 56, 57, 58, 59, 60, 61, 62, 63, 64, 65, 66, 67, 68, 69, 70, 71, 72, 73, 74, 75, 76, 77, 78, 79, 80, 81, 82, 83, 84, 85, 86, 87, 88, 89, 90, 91, 92, 93, 94, 95, 96, 97, 98, 99, 100, 101, 102, 103, 104, 105, 106, 107, 108, 109, 110, 111, 112, 113, 114, 121, 122, 123, 124, 125, 126, 115, 116, 117, 118, 119, 120, 127, 128, 129, 130, 131, 132, 133, 134, 135, 136, 137, 138, 139] (by decide +kernel) (by decide +kernel)
set_option maxRecDepth 20000 in
theorem gX4_copy_X4_perform : GoodIn wsX4_copy (wsV RX4 82 RX4 yX4_perform wsX4_perform) := goodIn_app (goodIn_of _ (by decide +kernel)) ggX4_copy_X4_perform
theorem dX4_copy_0 : decode cX4_copy 0 = .ok (.aload_n 0, 1) := by decide +kernel
theorem dX4_copy_1 : decode cX4_copy 1 = .ok (.new 77, 3) := by decide +kernel
theorem dX4_copy_4 : decode cX4_copy 4 = .ok (.dup, 1) := by decide +kernel
theorem dX4_copy_5 : decode cX4_copy 5 = .ok (.iload_n 1, 1) := by decide +kernel
theorem dX4_copy_6 : decode cX4_copy 6 = .ok (.iload_n 2, 1) := by decide +kernel
theorem dX4_copy_7 : decode cX4_copy 7 = .ok (.iload_n 3, 1) := by decide +kernel
theorem dX4_copy_8 : decode cX4_copy 8 = .ok (.iload 4, 2) := by decide +kernel
theorem dX4_copy_10 : decode cX4_copy 10 = .ok (.iload 5, 2) := by decide +kernel
theorem dX4_copy_12 : decode cX4_copy 12 = .ok (.iload 6, 2) := by decide +kernel
theorem dX4_copy_14 : decode cX4_copy 14 = .ok (.invokespecial 79, 3) := by decide +kernel
theorem dX4_copy_17 : decode cX4_copy 17 = .ok (.invokevirtual 82, 3) := by decide +kernel
theorem dX4_copy_20 : decode cX4_copy 20 = .ok (.ireturn, 1) := by decide +kernel
set_option maxRecDepth 20000 in
theorem ggX4_order_X2_init : GoodIn wsX4_order wsX2_init := goodIn_r _ [7, 8, 9, 10, 11, 12, 13, 14, 15, 16, 37, 38, 39, 40, 41, 42] (by decide +kernel) (by decide +kernel)
set_option maxRecDepth 20000 in
theorem gX4_order_X2_init : GoodIn wsX4_order (wsX2_init) := ggX4_order_X2_init
set_option maxRecDepth 20000 in
theorem ggX4_order_X4_isPossible : GoodIn wsX4_order wsX4_isPossible := goodIn_r _ [20, 21, 22, 23, 24, 25, 19, 26, 27, 28, 29, 37, 38, 39, 40, 41, 42] (by decide +kernel) (by decide +kernel)
set_option maxRecDepth 20000 in
theorem gX4_order_X4_isPossible : GoodIn wsX4_order (va_wsS RX4 86 yX4_isPossible wsX4_isPossible) := goodIn_app (goodIn_of _ (by decide +kernel)) ggX4_order_X4_isPossible
set_option maxRecDepth 20000 in
theorem ggX4_order_X3_addOrder : GoodIn wsX4_order wsX3_addOrder := goodIn_r _ [34, 35, 36, 49, 50, 51, 52] (by decide +kernel) (by decide +kernel)
set_option maxRecDepth 20000 in
theorem gX4_order_X3_addOrder : GoodIn wsX4_order (wsV RX4 90 RX3 yX3_addOrder wsX3_addOrder) := goodIn_app (goodIn_of _ (by decide +kernel)) ggX4_order_X3_addOrder
theorem dX4_order_0 : decode cX4_order 0 = .ok (.new 77, 3) := by decide +kernel
theorem dX4_order_3 : decode cX4_order 3 = .ok (.dup, 1) := by decide +kernel
theorem dX4_order_4 : decode cX4_order 4 = .ok (.iload_n 1, 1) := by decide +kernel
theorem dX4_order_5 : decode cX4_order 5 = .ok (.iload_n 2, 1) := by decide +kernel
theorem dX4_order_6 : decode cX4_order 6 = .ok (.iload_n 3, 1) := by decide +kernel
theorem dX4_order_7 : decode cX4_order 7 = .ok (.iload 4, 2) := by decide +kernel
theorem dX4_order_9 : decode cX4_order 9 = .ok (.iload 5, 2) := by decide +kernel
theorem dX4_order_11 : decode cX4_order 11 = .ok (.iload 6, 2) := by decide +kernel
theorem dX4_order_13 : decode cX4_order 13 = .ok (.invokespecial 79, 3) := by decide +kernel
theorem dX4_order_16 : decode cX4_order 16 = .ok (.astore 7, 2) := by decide +kernel
theorem dX4_order_18 : decode cX4_order 18 = .ok (.aload 7, 2) := by decide +kernel
theorem dX4_order_20 : decode cX4_order 20 = .ok (.invokestatic 86, 3) := by decide +kernel
theorem dX4_order_23 : decode cX4_order 23 = .ok (.ifCond .eq 17, 3) := by decide +kernel
theorem dX4_order_26 : decode cX4_order 26 = .ok (.aload_n 0, 1) := by decide +kernel
theorem dX4_order_27 : decode cX4_order 27 = .ok (.getfield 27, 3) := by decide +kernel
theorem dX4_order_30 : decode cX4_order 30 = .ok (.iload_n 1, 1) := by decide +kernel
theorem dX4_order_31 : decode cX4_order 31 = .ok (.aaload, 1) := by decide +kernel
theorem dX4_order_32 : decode cX4_order 32 = .ok (.aload 7, 2) := by decide +kernel
theorem dX4_order_34 : decode cX4_order 34 = .ok (.invokevirtual 90, 3) := by decide +kernel
theorem dX4_order_37 : decode cX4_order 37 = .ok (.goto 5, 3) := by decide +kernel
theorem dX4_order_40 : decode cX4_order 40 = .ok (.bipush (-99), 2) := by decide +kernel
theorem dX4_order_42 : decode cX4_order 42 = .ok (.ireturn, 1) := by decide +kernel
set_option maxRecDepth 20000 in
theorem ggX4_day_X3_firstOrder : GoodIn wsX4_day wsX3_firstOrder := goodIn_r _ [6, 7, 8, 116, 117, 118, 119] (by decide +kernel) (by decide +kernel)
set_option maxRecDepth 20000 in
theorem gX4_day_X3_firstOrder : GoodIn wsX4_day (wsV RX4 93 RX3 yX3_firstOrder wsX3_firstOrder) := goodIn_app (goodIn_of _ (by decide +kernel)) ggX4_day_X3_firstOrder
set_option maxRecDepth 20000 in
theorem ggX4_day_X4_perform : GoodIn wsX4_day wsX4_perform := goodIn_r _ [13, 1, 14, 15, 16, 17, 18, 19, 20, 21, 22, 23, 12, 24, 25, 26, 27, 28, 29, 30, 31, 32, 33, 34, 35, 36, 37, 38, 39, 40, 41, 42, 43, 44, 45, 46, 47, 48, 49, 50, 51, 52, 53, 54, 55, 56, 57, 58, 59, 60, 61, 62, 63, 64, 65, 66, 67, 68, 69, 70, 71, 72, 73, 74, 75, 76, 77, 78, 79, 80, 81, 5, 82, 83, 84, 85, 86, 87, 88, 89, 90, 91, 92, 93, 94, 95, 96, 97, 98, 99, 100, 101, 102, 103, 104, 105, 110, 111, 112, 113, 114, 115, 120, 121, 122, 123, 124, 125, 116, 117, 118, 119, 126, 127, 128, 129, 130, 131, 132, 133, 134] (by decide +kernel) (by decide +kernel)
set_option maxRecDepth 20000 in
theorem gX4_day_X4_perform : GoodIn wsX4_day (wsV RX4 82 RX4 yX4_perform wsX4_perform) := goodIn_app (goodIn_of _ (by decide +kernel)) ggX4_day_X4_perform
set_option maxRecDepth 20000 in
theorem ggX4_day_X3_dropFirstOrder : GoodIn wsX4_day wsX3_dropFirstOrder := goodIn_r _ [109, 7, 8, 116, 117, 118, 119] (by decide +kernel) (by decide +kernel)
set_option maxRecDepth 20000 in
theorem gX4_day_X3_dropFirstOrder : GoodIn wsX4_day (wsV RX4 97 RX3 yX3_dropFirstOrder wsX3_dropFirstOrder) := goodIn_app (goodIn_of _ (by decide +kernel)) ggX4_day_X3_dropFirstOrder
theorem dX4_day_0 : decode cX4_day 0 = .ok (.iconst 0, 1) := by decide +kernel
theorem dX4_day_1 : decode cX4_day 1 = .ok (.istore_n 1, 1) := by decide +kernel
theorem dX4_day_2 : decode cX4_day 2 = .ok (.iconst 0, 1) := by decide +kernel
theorem dX4_day_3 : decode cX4_day 3 = .ok (.istore_n 2, 1) := by decide +kernel
theorem dX4_day_4 : decode cX4_day 4 = .ok (.iload_n 2, 1) := by decide +kernel
theorem dX4_day_5 : decode cX4_day 5 = .ok (.iconst 3, 1) := by decide +kernel
theorem dX4_day_6 : decode cX4_day 6 = .ok (.if_icmp .ge 45, 3) := by decide +kernel
theorem dX4_day_9 : decode cX4_day 9 = .ok (.aload_n 0, 1) := by decide +kernel
theorem dX4_day_10 : decode cX4_day 10 = .ok (.getfield 27, 3) := by decide +kernel
theorem dX4_day_13 : decode cX4_day 13 = .ok (.iload_n 2, 1) := by decide +kernel
theorem dX4_day_14 : decode cX4_day 14 = .ok (.aaload, 1) := by decide +kernel
theorem dX4_day_15 : decode cX4_day 15 = .ok (.invokevirtual 93, 3) := by decide +kernel
theorem dX4_day_18 : decode cX4_day 18 = .ok (.astore_n 3, 1) := by decide +kernel
theorem dX4_day_19 : decode cX4_day 19 = .ok (.aload_n 3, 1) := by decide +kernel
theorem dX4_day_20 : decode cX4_day 20 = .ok (.ifnull 25, 3) := by decide +kernel
theorem dX4_day_23 : decode cX4_day 23 = .ok (.aload_n 0, 1) := by decide +kernel
theorem dX4_day_24 : decode cX4_day 24 = .ok (.aload_n 3, 1) := by decide +kernel
theorem dX4_day_25 : decode cX4_day 25 = .ok (.invokevirtual 82, 3) := by decide +kernel
theorem dX4_day_28 : decode cX4_day 28 = .ok (.bipush (-50), 2) := by decide +kernel
theorem dX4_day_30 : decode cX4_day 30 = .ok (.if_icmp .eq 15, 3) := by decide +kernel
theorem dX4_day_33 : decode cX4_day 33 = .ok (.aload_n 0, 1) := by decide +kernel
theorem dX4_day_34 : decode cX4_day 34 = .ok (.getfield 27, 3) := by decide +kernel
theorem dX4_day_37 : decode cX4_day 37 = .ok (.iload_n 2, 1) := by decide +kernel
theorem dX4_day_38 : decode cX4_day 38 = .ok (.aaload, 1) := by decide +kernel
theorem dX4_day_39 : decode cX4_day 39 = .ok (.invokevirtual 97, 3) := by decide +kernel
theorem dX4_day_42 : decode cX4_day 42 = .ok (.iinc 1 1, 3) := by decide +kernel
theorem dX4_day_45 : decode cX4_day 45 = .ok (.iinc 2 1, 3) := by decide +kernel
theorem dX4_day_48 : decode cX4_day 48 = .ok (.goto (-44), 3) := by decide +kernel
theorem dX4_day_51 : decode cX4_day 51 = .ok (.iload_n 1, 1) := by decide +kernel
theorem dX4_day_52 : decode cX4_day 52 = .ok (.ireturn, 1) := by decide +kernel
set_option maxRecDepth 20000 in
theorem ggX4_fill_X4_isScribe : GoodIn wsX4_fill wsX4_isScribe := goodIn_r _ [10] (by decide +kernel) (by decide +kernel)
set_option maxRecDepth 20000 in
theorem gX4_fill_X4_isScribe : GoodIn wsX4_fill (va_wsS RX4 100 yX4_isScribe wsX4_isScribe) := goodIn_app (goodIn_of _ (by decide +kernel)) ggX4_fill_X4_isScribe
theorem dX4_fill_0 : decode cX4_fill 0 = .ok (.iload_n 1, 1) := by decide +kernel
theorem dX4_fill_1 : decode cX4_fill 1 = .ok (.invokestatic 100, 3) := by decide +kernel
theorem dX4_fill_4 : decode cX4_fill 4 = .ok (.ifCond .eq 14, 3) := by decide +kernel
theorem dX4_fill_7 : decode cX4_fill 7 = .ok (.iload_n 2, 1) := by decide +kernel
theorem dX4_fill_8 : decode cX4_fill 8 = .ok (.ifCond .lt 10, 3) := by decide +kernel
theorem dX4_fill_11 : decode cX4_fill 11 = .ok (.iload_n 2, 1) := by decide +kernel
theorem dX4_fill_12 : decode cX4_fill 12 = .ok (.sipush 1000, 3) := by decide +kernel
theorem dX4_fill_15 : decode cX4_fill 15 = .ok (.if_icmp .le 6, 3) := by decide +kernel
theorem dX4_fill_18 : decode cX4_fill 18 = .ok (.bipush (-99), 2) := by decide +kernel
theorem dX4_fill_20 : decode cX4_fill 20 = .ok (.ireturn, 1) := by decide +kernel
theorem dX4_fill_21 : decode cX4_fill 21 = .ok (.aload_n 0, 1) := by decide +kernel
theorem dX4_fill_22 : decode cX4_fill 22 = .ok (.getfield 27, 3) := by decide +kernel
theorem dX4_fill_25 : decode cX4_fill 25 = .ok (.iload_n 1, 1) := by decide +kernel
theorem dX4_fill_26 : decode cX4_fill 26 = .ok (.aaload, 1) := by decide +kernel
theorem dX4_fill_27 : decode cX4_fill 27 = .ok (.sipush 1000, 3) := by decide +kernel
theorem dX4_fill_30 : decode cX4_fill 30 = .ok (.aload_n 0, 1) := by decide +kernel
theorem dX4_fill_31 : decode cX4_fill 31 = .ok (.getfield 27, 3) := by decide +kernel
theorem dX4_fill_34 : decode cX4_fill 34 = .ok (.iload_n 1, 1) := by decide +kernel
theorem dX4_fill_35 : decode cX4_fill 35 = .ok (.aaload, 1) := by decide +kernel
theorem dX4_fill_36 : decode cX4_fill 36 = .ok (.getfield 103, 3) := by decide +kernel
theorem dX4_fill_39 : decode cX4_fill 39 = .ok (.iload_n 2, 1) := by decide +kernel
theorem dX4_fill_40 : decode cX4_fill 40 = .ok (.iadd, 1) := by decide +kernel
theorem dX4_fill_41 : decode cX4_fill 41 = .ok (.invokestatic 106, 3) := by decide +kernel
theorem dX4_fill_44 : decode cX4_fill 44 = .ok (.putfield 103, 3) := by decide +kernel
theorem dX4_fill_47 : decode cX4_fill 47 = .ok (.aload_n 0, 1) := by decide +kernel
theorem dX4_fill_48 : decode cX4_fill 48 = .ok (.getfield 27, 3) := by decide +kernel
theorem dX4_fill_51 : decode cX4_fill 51 = .ok (.iload_n 1, 1) := by decide +kernel
theorem dX4_fill_52 : decode cX4_fill 52 = .ok (.aaload, 1) := by decide +kernel
theorem dX4_fill_53 : decode cX4_fill 53 = .ok (.getfield 103, 3) := by decide +kernel
theorem dX4_fill_56 : decode cX4_fill 56 = .ok (.ireturn, 1) := by decide +kernel
set_option maxRecDepth 20000 in
theorem ggX4_scribe_X4_isScribe : GoodIn wsX4_scribe wsX4_isScribe := goodIn_r _ [8] (by decide +kernel) (by decide +kernel)
set_option maxRecDepth 20000 in
theorem gX4_scribe_X4_isScribe : GoodIn wsX4_scribe (va_wsS RX4 100 yX4_isScribe wsX4_isScribe) := goodIn_app (goodIn_of _ (by decide +kernel)) ggX4_scribe_X4_isScribe
theorem dX4_scribe_0 : decode cX4_scribe 0 = .ok (.iload_n 1, 1) := by decide +kernel
theorem dX4_scribe_1 : decode cX4_scribe 1 = .ok (.invokestatic 100, 3) := by decide +kernel
theorem dX4_scribe_4 : decode cX4_scribe 4 = .ok (.ifCond .ne 6, 3) := by decide +kernel
theorem dX4_scribe_7 : decode cX4_scribe 7 = .ok (.bipush (-99), 2) := by decide +kernel
theorem dX4_scribe_9 : decode cX4_scribe 9 = .ok (.ireturn, 1) := by decide +kernel
theorem dX4_scribe_10 : decode cX4_scribe 10 = .ok (.iload_n 2, 1) := by decide +kernel
theorem dX4_scribe_11 : decode cX4_scribe 11 = .ok (.tableswitch 55 0 2 #[25, 35, 45], 25) := by decide +kernel
theorem dX4_scribe_36 : decode cX4_scribe 36 = .ok (.aload_n 0, 1) := by decide +kernel
theorem dX4_scribe_37 : decode cX4_scribe 37 = .ok (.getfield 27, 3) := by decide +kernel
theorem dX4_scribe_40 : decode cX4_scribe 40 = .ok (.iload_n 1, 1) := by decide +kernel
theorem dX4_scribe_41 : decode cX4_scribe 41 = .ok (.aaload, 1) := by decide +kernel
theorem dX4_scribe_42 : decode cX4_scribe 42 = .ok (.getfield 103, 3) := by decide +kernel
theorem dX4_scribe_45 : decode cX4_scribe 45 = .ok (.ireturn, 1) := by decide +kernel
theorem dX4_scribe_46 : decode cX4_scribe 46 = .ok (.aload_n 0, 1) := by decide +kernel
theorem dX4_scribe_47 : decode cX4_scribe 47 = .ok (.getfield 27, 3) := by decide +kernel
theorem dX4_scribe_50 : decode cX4_scribe 50 = .ok (.iload_n 1, 1) := by decide +kernel
theorem dX4_scribe_51 : decode cX4_scribe 51 = .ok (.aaload, 1) := by decide +kernel
theorem dX4_scribe_52 : decode cX4_scribe 52 = .ok (.getfield 112, 3) := by decide +kernel
theorem dX4_scribe_55 : decode cX4_scribe 55 = .ok (.ireturn, 1) := by decide +kernel
theorem dX4_scribe_56 : decode cX4_scribe 56 = .ok (.aload_n 0, 1) := by decide +kernel
theorem dX4_scribe_57 : decode cX4_scribe 57 = .ok (.getfield 27, 3) := by decide +kernel
theorem dX4_scribe_60 : decode cX4_scribe 60 = .ok (.iload_n 1, 1) := by decide +kernel
theorem dX4_scribe_61 : decode cX4_scribe 61 = .ok (.aaload, 1) := by decide +kernel
theorem dX4_scribe_62 : decode cX4_scribe 62 = .ok (.getfield 115, 3) := by decide +kernel
theorem dX4_scribe_65 : decode cX4_scribe 65 = .ok (.ireturn, 1) := by decide +kernel
theorem dX4_scribe_66 : decode cX4_scribe 66 = .ok (.bipush (-99), 2) := by decide +kernel
theorem dX4_scribe_68 : decode cX4_scribe 68 = .ok (.ireturn, 1) := by decide +kernel
set_option maxRecDepth 20000 in
theorem ggX4_sign_X4_isDesk : GoodIn wsX4_sign wsX4_isDesk := goodIn_r _ [9] (by decide +kernel) (by decide +kernel)
set_option maxRecDepth 20000 in
theorem gX4_sign_X4_isDesk : GoodIn wsX4_sign (va_wsS RX4 43 yX4_isDesk wsX4_isDesk) := goodIn_app (goodIn_of _ (by decide +kernel)) ggX4_sign_X4_isDesk
set_option maxRecDepth 20000 in
theorem ggX4_sign_X0_isNoBook : GoodIn wsX4_sign wsX0_isNoBook := goodIn_r _ [14, 15, 37, 38, 39] (by decide +kernel) (by decide +kernel)
set_option maxRecDepth 20000 in
theorem gX4_sign_X0_isNoBook : GoodIn wsX4_sign (wsV RX4 55 RX0 yX0_isNoBook wsX0_isNoBook) := goodIn_app (goodIn_of _ (by decide +kernel)) ggX4_sign_X0_isNoBook
set_option maxRecDepth 20000 in
theorem ggX4_sign_X0_hasPlace : GoodIn wsX4_sign wsX0_hasPlace := goodIn_r _ [19, 20, 37, 38, 39] (by decide +kernel) (by decide +kernel)
set_option maxRecDepth 20000 in
theorem gX4_sign_X0_hasPlace : GoodIn wsX4_sign (wsV RX4 62 RX0 yX0_hasPlace wsX0_hasPlace) := goodIn_app (goodIn_of _ (by decide +kernel)) ggX4_sign_X0_hasPlace
set_option maxRecDepth 20000 in
theorem ggX4_sign_X0_signAt : GoodIn wsX4_sign wsX0_signAt := goodIn_r _ [24, 25, 20, 26, 27, 28, 29, 13, 30, 15, 37, 38, 39] (by decide +kernel) (by decide +kernel)
set_option maxRecDepth 20000 in
theorem gX4_sign_X0_signAt : GoodIn wsX4_sign (wsV RX4 130 RX0 yX0_signAt wsX0_signAt) := goodIn_app (goodIn_of _ (by decide +kernel)) ggX4_sign_X0_signAt
theorem dX4_sign_0 : decode cX4_sign 0 = .ok (.iload_n 1, 1) := by decide +kernel
theorem dX4_sign_1 : decode cX4_sign 1 = .ok (.invokestatic 43, 3) := by decide +kernel
theorem dX4_sign_4 : decode cX4_sign 4 = .ok (.ifCond .eq 15, 3) := by decide +kernel
theorem dX4_sign_7 : decode cX4_sign 7 = .ok (.aload_n 0, 1) := by decide +kernel
theorem dX4_sign_8 : decode cX4_sign 8 = .ok (.getfield 21, 3) := by decide +kernel
theorem dX4_sign_11 : decode cX4_sign 11 = .ok (.iload_n 1, 1) := by decide +kernel
theorem dX4_sign_12 : decode cX4_sign 12 = .ok (.aaload, 1) := by decide +kernel
theorem dX4_sign_13 : decode cX4_sign 13 = .ok (.invokevirtual 55, 3) := by decide +kernel
theorem dX4_sign_16 : decode cX4_sign 16 = .ok (.ifCond .eq 13, 3) := by decide +kernel
theorem dX4_sign_19 : decode cX4_sign 19 = .ok (.new 118, 3) := by decide +kernel
theorem dX4_sign_22 : decode cX4_sign 22 = .ok (.dup, 1) := by decide +kernel
theorem dX4_sign_23 : decode cX4_sign 23 = .ok (.ldc 120, 2) := by decide +kernel
theorem dX4_sign_25 : decode cX4_sign 25 = .ok (.invokespecial 122, 3) := by decide +kernel
theorem dX4_sign_28 : decode cX4_sign 28 = .ok (.athrow, 1) := by decide +kernel
theorem dX4_sign_29 : decode cX4_sign 29 = .ok (.aload_n 0, 1) := by decide +kernel
theorem dX4_sign_30 : decode cX4_sign 30 = .ok (.getfield 21, 3) := by decide +kernel
theorem dX4_sign_33 : decode cX4_sign 33 = .ok (.iload_n 1, 1) := by decide +kernel
theorem dX4_sign_34 : decode cX4_sign 34 = .ok (.aaload, 1) := by decide +kernel
theorem dX4_sign_35 : decode cX4_sign 35 = .ok (.iload_n 2, 1) := by decide +kernel
theorem dX4_sign_36 : decode cX4_sign 36 = .ok (.invokevirtual 62, 3) := by decide +kernel
theorem dX4_sign_39 : decode cX4_sign 39 = .ok (.ifCond .ne 13, 3) := by decide +kernel
theorem dX4_sign_42 : decode cX4_sign 42 = .ok (.new 125, 3) := by decide +kernel
theorem dX4_sign_45 : decode cX4_sign 45 = .ok (.dup, 1) := by decide +kernel
theorem dX4_sign_46 : decode cX4_sign 46 = .ok (.ldc 127, 2) := by decide +kernel
theorem dX4_sign_48 : decode cX4_sign 48 = .ok (.invokespecial 129, 3) := by decide +kernel
theorem dX4_sign_51 : decode cX4_sign 51 = .ok (.athrow, 1) := by decide +kernel
theorem dX4_sign_52 : decode cX4_sign 52 = .ok (.aload_n 0, 1) := by decide +kernel
theorem dX4_sign_53 : decode cX4_sign 53 = .ok (.getfield 21, 3) := by decide +kernel
theorem dX4_sign_56 : decode cX4_sign 56 = .ok (.iload_n 1, 1) := by decide +kernel
theorem dX4_sign_57 : decode cX4_sign 57 = .ok (.aaload, 1) := by decide +kernel
theorem dX4_sign_58 : decode cX4_sign 58 = .ok (.iload_n 2, 1) := by decide +kernel
theorem dX4_sign_59 : decode cX4_sign 59 = .ok (.invokevirtual 130, 3) := by decide +kernel
theorem dX4_sign_62 : decode cX4_sign 62 = .ok (.lreturn, 1) := by decide +kernel
set_option maxRecDepth 20000 in
theorem ggX4_book_X4_isDesk : GoodIn wsX4_book wsX4_isDesk := goodIn_r _ [6] (by decide +kernel) (by decide +kernel)
set_option maxRecDepth 20000 in
theorem gX4_book_X4_isDesk : GoodIn wsX4_book (va_wsS RX4 43 yX4_isDesk wsX4_isDesk) := goodIn_app (goodIn_of _ (by decide +kernel)) ggX4_book_X4_isDesk
set_option maxRecDepth 20000 in
theorem ggX4_book_X0_isNoBook : GoodIn wsX4_book wsX0_isNoBook := goodIn_r _ [11, 12, 24, 25, 26] (by decide +kernel) (by decide +kernel)
set_option maxRecDepth 20000 in
theorem gX4_book_X0_isNoBook : GoodIn wsX4_book (wsV RX4 55 RX0 yX0_isNoBook wsX0_isNoBook) := goodIn_app (goodIn_of _ (by decide +kernel)) ggX4_book_X0_isNoBook
set_option maxRecDepth 20000 in
theorem ggX4_book_X0_length : GoodIn wsX4_book wsX0_length := goodIn_r _ [16, 17, 24, 25, 26] (by decide +kernel) (by decide +kernel)
set_option maxRecDepth 20000 in
theorem gX4_book_X0_length : GoodIn wsX4_book (wsV RX4 134 RX0 yX0_length wsX0_length) := goodIn_app (goodIn_of _ (by decide +kernel)) ggX4_book_X0_length
theorem dX4_book_0 : decode cX4_book 0 = .ok (.iload_n 1, 1) := by decide +kernel
theorem dX4_book_1 : decode cX4_book 1 = .ok (.invokestatic 43, 3) := by decide +kernel
theorem dX4_book_4 : decode cX4_book 4 = .ok (.ifCond .eq 12, 3) := by decide +kernel
theorem dX4_book_7 : decode cX4_book 7 = .ok (.iload_n 2, 1) := by decide +kernel
theorem dX4_book_8 : decode cX4_book 8 = .ok (.ifCond .lt 8, 3) := by decide +kernel
theorem dX4_book_11 : decode cX4_book 11 = .ok (.iload_n 2, 1) := by decide +kernel
theorem dX4_book_12 : decode cX4_book 12 = .ok (.iconst 1, 1) := by decide +kernel
theorem dX4_book_13 : decode cX4_book 13 = .ok (.if_icmp .le 6, 3) := by decide +kernel
theorem dX4_book_16 : decode cX4_book 16 = .ok (.bipush (-99), 2) := by decide +kernel
theorem dX4_book_18 : decode cX4_book 18 = .ok (.ireturn, 1) := by decide +kernel
theorem dX4_book_19 : decode cX4_book 19 = .ok (.aload_n 0, 1) := by decide +kernel
theorem dX4_book_20 : decode cX4_book 20 = .ok (.getfield 21, 3) := by decide +kernel
theorem dX4_book_23 : decode cX4_book 23 = .ok (.iload_n 1, 1) := by decide +kernel
theorem dX4_book_24 : decode cX4_book 24 = .ok (.aaload, 1) := by decide +kernel
theorem dX4_book_25 : decode cX4_book 25 = .ok (.astore_n 3, 1) := by decide +kernel
theorem dX4_book_26 : decode cX4_book 26 = .ok (.iload_n 2, 1) := by decide +kernel
end
section
theorem dX4_book_27 : decode cX4_book 27 = .ok (.ifCond .eq 10, 3) := by decide +kernel
theorem dX4_book_30 : decode cX4_book 30 = .ok (.aload_n 3, 1) := by decide +kernel
theorem dX4_book_31 : decode cX4_book 31 = .ok (.invokevirtual 55, 3) := by decide +kernel
theorem dX4_book_34 : decode cX4_book 34 = .ok (.ifCond .eq 10, 3) := by decide +kernel
theorem dX4_book_37 : decode cX4_book 37 = .ok (.aload_n 3, 1) := by decide +kernel
theorem dX4_book_38 : decode cX4_book 38 = .ok (.getfield 58, 3) := by decide +kernel
theorem dX4_book_41 : decode cX4_book 41 = .ok (.goto 7, 3) := by decide +kernel
theorem dX4_book_44 : decode cX4_book 44 = .ok (.aload_n 3, 1) := by decide +kernel
theorem dX4_book_45 : decode cX4_book 45 = .ok (.invokevirtual 134, 3) := by decide +kernel
theorem dX4_book_48 : decode cX4_book 48 = .ok (.ireturn, 1) := by decide +kernel
set_option maxRecDepth 20000 in
theorem ggX4_differ_X4_isDesk : GoodIn wsX4_differ wsX4_isDesk := goodIn_r _ [5] (by decide +kernel) (by decide +kernel)
set_option maxRecDepth 20000 in
theorem gX4_differ_X4_isDesk : GoodIn wsX4_differ (va_wsS RX4 43 yX4_isDesk wsX4_isDesk) := goodIn_app (goodIn_of _ (by decide +kernel)) ggX4_differ_X4_isDesk
set_option maxRecDepth 20000 in
theorem ggX4_differ_X4_hindranceBetween : GoodIn wsX4_differ wsX4_hindranceBetween := goodIn_r _ [8, 9, 10, 11, 12, 13, 14, 15, 16, 17, 18, 19, 20, 21, 22, 23, 44, 45, 46] (by decide +kernel) (by decide +kernel)
set_option maxRecDepth 20000 in
theorem gX4_differ_X4_hindranceBetween : GoodIn wsX4_differ (va_wsS RX4 138 yX4_hindranceBetween wsX4_hindranceBetween) := goodIn_app (goodIn_of _ (by decide +kernel)) ggX4_differ_X4_hindranceBetween
set_option maxRecDepth 20000 in
theorem ggX4_differ_X4_firstDifference : GoodIn wsX4_differ wsX4_firstDifference := goodIn_r _ [26, 27, 28, 29, 30, 31, 32, 33, 34, 35, 13, 36, 37, 44, 45, 46] (by decide +kernel) (by decide +kernel)
set_option maxRecDepth 20000 in
theorem gX4_differ_X4_firstDifference : GoodIn wsX4_differ (va_wsS RX4 142 yX4_firstDifference wsX4_firstDifference) := goodIn_app (goodIn_of _ (by decide +kernel)) ggX4_differ_X4_firstDifference
theorem dX4_differ_0 : decode cX4_differ 0 = .ok (.iload_n 1, 1) := by decide +kernel
theorem dX4_differ_1 : decode cX4_differ 1 = .ok (.invokestatic 43, 3) := by decide +kernel
theorem dX4_differ_4 : decode cX4_differ 4 = .ok (.ifCond .eq 10, 3) := by decide +kernel
theorem dX4_differ_7 : decode cX4_differ 7 = .ok (.iload_n 2, 1) := by decide +kernel
theorem dX4_differ_8 : decode cX4_differ 8 = .ok (.invokestatic 43, 3) := by decide +kernel
theorem dX4_differ_11 : decode cX4_differ 11 = .ok (.ifCond .ne 6, 3) := by decide +kernel
theorem dX4_differ_14 : decode cX4_differ 14 = .ok (.bipush (-99), 2) := by decide +kernel
theorem dX4_differ_16 : decode cX4_differ 16 = .ok (.ireturn, 1) := by decide +kernel
theorem dX4_differ_17 : decode cX4_differ 17 = .ok (.aload_n 0, 1) := by decide +kernel
theorem dX4_differ_18 : decode cX4_differ 18 = .ok (.getfield 21, 3) := by decide +kernel
theorem dX4_differ_21 : decode cX4_differ 21 = .ok (.iload_n 1, 1) := by decide +kernel
theorem dX4_differ_22 : decode cX4_differ 22 = .ok (.aaload, 1) := by decide +kernel
theorem dX4_differ_23 : decode cX4_differ 23 = .ok (.aload_n 0, 1) := by decide +kernel
theorem dX4_differ_24 : decode cX4_differ 24 = .ok (.getfield 21, 3) := by decide +kernel
theorem dX4_differ_27 : decode cX4_differ 27 = .ok (.iload_n 2, 1) := by decide +kernel
theorem dX4_differ_28 : decode cX4_differ 28 = .ok (.aaload, 1) := by decide +kernel
theorem dX4_differ_29 : decode cX4_differ 29 = .ok (.invokestatic 138, 3) := by decide +kernel
theorem dX4_differ_32 : decode cX4_differ 32 = .ok (.istore_n 3, 1) := by decide +kernel
theorem dX4_differ_33 : decode cX4_differ 33 = .ok (.iload_n 3, 1) := by decide +kernel
theorem dX4_differ_34 : decode cX4_differ 34 = .ok (.ifCond .eq 7, 3) := by decide +kernel
theorem dX4_differ_37 : decode cX4_differ 37 = .ok (.iload_n 3, 1) := by decide +kernel
theorem dX4_differ_38 : decode cX4_differ 38 = .ok (.goto 18, 3) := by decide +kernel
theorem dX4_differ_41 : decode cX4_differ 41 = .ok (.aload_n 0, 1) := by decide +kernel
theorem dX4_differ_42 : decode cX4_differ 42 = .ok (.getfield 21, 3) := by decide +kernel
theorem dX4_differ_45 : decode cX4_differ 45 = .ok (.iload_n 1, 1) := by decide +kernel
theorem dX4_differ_46 : decode cX4_differ 46 = .ok (.aaload, 1) := by decide +kernel
theorem dX4_differ_47 : decode cX4_differ 47 = .ok (.aload_n 0, 1) := by decide +kernel
theorem dX4_differ_48 : decode cX4_differ 48 = .ok (.getfield 21, 3) := by decide +kernel
theorem dX4_differ_51 : decode cX4_differ 51 = .ok (.iload_n 2, 1) := by decide +kernel
theorem dX4_differ_52 : decode cX4_differ 52 = .ok (.aaload, 1) := by decide +kernel
theorem dX4_differ_53 : decode cX4_differ 53 = .ok (.invokestatic 142, 3) := by decide +kernel
theorem dX4_differ_56 : decode cX4_differ 56 = .ok (.ireturn, 1) := by decide +kernel
set_option maxRecDepth 20000 in
theorem ggX4_chronicle_X1_has : GoodIn wsX4_chronicle wsX1_has := goodIn_r _ [10, 11, 27, 28, 29, 30, 31, 32] (by decide +kernel) (by decide +kernel)
set_option maxRecDepth 20000 in
theorem gX4_chronicle_X1_has : GoodIn wsX4_chronicle (wsV RX4 145 RX1 yX1_has wsX1_has) := goodIn_app (goodIn_of _ (by decide +kernel)) ggX4_chronicle_X1_has
set_option maxRecDepth 20000 in
theorem ggX4_chronicle_X1_rowOf : GoodIn wsX4_chronicle wsX1_rowOf := goodIn_r _ [15, 16, 17, 18, 19, 20, 27, 28, 29, 30, 31, 32] (by decide +kernel) (by decide +kernel)
set_option maxRecDepth 20000 in
theorem gX4_chronicle_X1_rowOf : GoodIn wsX4_chronicle (wsV RX4 148 RX1 yX1_rowOf wsX1_rowOf) := goodIn_app (goodIn_of _ (by decide +kernel)) ggX4_chronicle_X1_rowOf
theorem dX4_chronicle_0 : decode cX4_chronicle 0 = .ok (.aload_n 0, 1) := by decide +kernel
theorem dX4_chronicle_1 : decode cX4_chronicle 1 = .ok (.getfield 35, 3) := by decide +kernel
theorem dX4_chronicle_4 : decode cX4_chronicle 4 = .ok (.iload_n 1, 1) := by decide +kernel
theorem dX4_chronicle_5 : decode cX4_chronicle 5 = .ok (.invokevirtual 145, 3) := by decide +kernel
theorem dX4_chronicle_8 : decode cX4_chronicle 8 = .ok (.ifCond .ne 6, 3) := by decide +kernel
theorem dX4_chronicle_11 : decode cX4_chronicle 11 = .ok (.bipush (-99), 2) := by decide +kernel
theorem dX4_chronicle_13 : decode cX4_chronicle 13 = .ok (.ireturn, 1) := by decide +kernel
theorem dX4_chronicle_14 : decode cX4_chronicle 14 = .ok (.aload_n 0, 1) := by decide +kernel
theorem dX4_chronicle_15 : decode cX4_chronicle 15 = .ok (.getfield 35, 3) := by decide +kernel
theorem dX4_chronicle_18 : decode cX4_chronicle 18 = .ok (.iload_n 1, 1) := by decide +kernel
theorem dX4_chronicle_19 : decode cX4_chronicle 19 = .ok (.invokevirtual 148, 3) := by decide +kernel
theorem dX4_chronicle_22 : decode cX4_chronicle 22 = .ok (.istore_n 3, 1) := by decide +kernel
theorem dX4_chronicle_23 : decode cX4_chronicle 23 = .ok (.iload_n 2, 1) := by decide +kernel
theorem dX4_chronicle_24 : decode cX4_chronicle 24 = .ok (.tableswitch 72 0 3 #[32, 42, 52, 62], 32) := by decide +kernel
theorem dX4_chronicle_56 : decode cX4_chronicle 56 = .ok (.aload_n 0, 1) := by decide +kernel
theorem dX4_chronicle_57 : decode cX4_chronicle 57 = .ok (.getfield 35, 3) := by decide +kernel
theorem dX4_chronicle_60 : decode cX4_chronicle 60 = .ok (.getfield 152, 3) := by decide +kernel
theorem dX4_chronicle_63 : decode cX4_chronicle 63 = .ok (.iload_n 3, 1) := by decide +kernel
theorem dX4_chronicle_64 : decode cX4_chronicle 64 = .ok (.iaload, 1) := by decide +kernel
theorem dX4_chronicle_65 : decode cX4_chronicle 65 = .ok (.ireturn, 1) := by decide +kernel
theorem dX4_chronicle_66 : decode cX4_chronicle 66 = .ok (.aload_n 0, 1) := by decide +kernel
theorem dX4_chronicle_67 : decode cX4_chronicle 67 = .ok (.getfield 35, 3) := by decide +kernel
theorem dX4_chronicle_70 : decode cX4_chronicle 70 = .ok (.getfield 155, 3) := by decide +kernel
theorem dX4_chronicle_73 : decode cX4_chronicle 73 = .ok (.iload_n 3, 1) := by decide +kernel
theorem dX4_chronicle_74 : decode cX4_chronicle 74 = .ok (.iaload, 1) := by decide +kernel
theorem dX4_chronicle_75 : decode cX4_chronicle 75 = .ok (.ireturn, 1) := by decide +kernel
theorem dX4_chronicle_76 : decode cX4_chronicle 76 = .ok (.aload_n 0, 1) := by decide +kernel
theorem dX4_chronicle_77 : decode cX4_chronicle 77 = .ok (.getfield 35, 3) := by decide +kernel
theorem dX4_chronicle_80 : decode cX4_chronicle 80 = .ok (.getfield 158, 3) := by decide +kernel
theorem dX4_chronicle_83 : decode cX4_chronicle 83 = .ok (.iload_n 3, 1) := by decide +kernel
theorem dX4_chronicle_84 : decode cX4_chronicle 84 = .ok (.iaload, 1) := by decide +kernel
theorem dX4_chronicle_85 : decode cX4_chronicle 85 = .ok (.ireturn, 1) := by decide +kernel
theorem dX4_chronicle_86 : decode cX4_chronicle 86 = .ok (.aload_n 0, 1) := by decide +kernel
theorem dX4_chronicle_87 : decode cX4_chronicle 87 = .ok (.getfield 35, 3) := by decide +kernel
theorem dX4_chronicle_90 : decode cX4_chronicle 90 = .ok (.getfield 161, 3) := by decide +kernel
theorem dX4_chronicle_93 : decode cX4_chronicle 93 = .ok (.iload_n 3, 1) := by decide +kernel
theorem dX4_chronicle_94 : decode cX4_chronicle 94 = .ok (.iaload, 1) := by decide +kernel
theorem dX4_chronicle_95 : decode cX4_chronicle 95 = .ok (.ireturn, 1) := by decide +kernel
theorem dX4_chronicle_96 : decode cX4_chronicle 96 = .ok (.bipush (-99), 2) := by decide +kernel
theorem dX4_chronicle_98 : decode cX4_chronicle 98 = .ok (.ireturn, 1) := by decide +kernel
theorem dX4_count_0 : decode cX4_count 0 = .ok (.iload_n 1, 1) := by decide +kernel
theorem dX4_count_1 : decode cX4_count 1 = .ok (.ifCond .lt 18, 3) := by decide +kernel
theorem dX4_count_4 : decode cX4_count 4 = .ok (.iload_n 1, 1) := by decide +kernel
theorem dX4_count_5 : decode cX4_count 5 = .ok (.bipush 8, 2) := by decide +kernel
theorem dX4_count_7 : decode cX4_count 7 = .ok (.if_icmp .ge 12, 3) := by decide +kernel
theorem dX4_count_10 : decode cX4_count 10 = .ok (.aload_n 0, 1) := by decide +kernel
theorem dX4_count_11 : decode cX4_count 11 = .ok (.getfield 39, 3) := by decide +kernel
theorem dX4_count_14 : decode cX4_count 14 = .ok (.iload_n 1, 1) := by decide +kernel
theorem dX4_count_15 : decode cX4_count 15 = .ok (.iaload, 1) := by decide +kernel
theorem dX4_count_16 : decode cX4_count 16 = .ok (.goto 5, 3) := by decide +kernel
theorem dX4_count_19 : decode cX4_count 19 = .ok (.bipush (-99), 2) := by decide +kernel
theorem dX4_count_21 : decode cX4_count 21 = .ok (.ireturn, 1) := by decide +kernel
theorem dX4_isDesk_0 : decode cX4_isDesk 0 = .ok (.iload_n 0, 1) := by decide +kernel
theorem dX4_isDesk_1 : decode cX4_isDesk 1 = .ok (.ifCond .lt 13, 3) := by decide +kernel
theorem dX4_isDesk_4 : decode cX4_isDesk 4 = .ok (.iload_n 0, 1) := by decide +kernel
theorem dX4_isDesk_5 : decode cX4_isDesk 5 = .ok (.bipush 6, 2) := by decide +kernel
theorem dX4_isDesk_7 : decode cX4_isDesk 7 = .ok (.if_icmp .ge 7, 3) := by decide +kernel
theorem dX4_isDesk_10 : decode cX4_isDesk 10 = .ok (.iconst 1, 1) := by decide +kernel
theorem dX4_isDesk_11 : decode cX4_isDesk 11 = .ok (.goto 4, 3) := by decide +kernel
theorem dX4_isDesk_14 : decode cX4_isDesk 14 = .ok (.iconst 0, 1) := by decide +kernel
theorem dX4_isDesk_15 : decode cX4_isDesk 15 = .ok (.ireturn, 1) := by decide +kernel
theorem dX4_isScribe_0 : decode cX4_isScribe 0 = .ok (.iload_n 0, 1) := by decide +kernel
theorem dX4_isScribe_1 : decode cX4_isScribe 1 = .ok (.ifCond .lt 12, 3) := by decide +kernel
theorem dX4_isScribe_4 : decode cX4_isScribe 4 = .ok (.iload_n 0, 1) := by decide +kernel
theorem dX4_isScribe_5 : decode cX4_isScribe 5 = .ok (.iconst 3, 1) := by decide +kernel
theorem dX4_isScribe_6 : decode cX4_isScribe 6 = .ok (.if_icmp .ge 7, 3) := by decide +kernel
theorem dX4_isScribe_9 : decode cX4_isScribe 9 = .ok (.iconst 1, 1) := by decide +kernel
theorem dX4_isScribe_10 : decode cX4_isScribe 10 = .ok (.goto 4, 3) := by decide +kernel
theorem dX4_isScribe_13 : decode cX4_isScribe 13 = .ok (.iconst 0, 1) := by decide +kernel
theorem dX4_isScribe_14 : decode cX4_isScribe 14 = .ok (.ireturn, 1) := by decide +kernel
set_option maxRecDepth 20000 in
theorem ggX4_isPossible_X4_isScribe : GoodIn wsX4_isPossible wsX4_isScribe := goodIn_r _ [7] (by decide +kernel) (by decide +kernel)
set_option maxRecDepth 20000 in
theorem gX4_isPossible_X4_isScribe : GoodIn wsX4_isPossible (va_wsS RX4 100 yX4_isScribe wsX4_isScribe) := goodIn_app (goodIn_of _ (by decide +kernel)) ggX4_isPossible_X4_isScribe
set_option maxRecDepth 20000 in
theorem ggX4_isPossible_X4_isDesk : GoodIn wsX4_isPossible wsX4_isDesk := goodIn_r _ [10] (by decide +kernel) (by decide +kernel)
set_option maxRecDepth 20000 in
theorem gX4_isPossible_X4_isDesk : GoodIn wsX4_isPossible (va_wsS RX4 43 yX4_isDesk wsX4_isDesk) := goodIn_app (goodIn_of _ (by decide +kernel)) ggX4_isPossible_X4_isDesk
theorem dX4_isPossible_0 : decode cX4_isPossible 0 = .ok (.aload_n 0, 1) := by decide +kernel
theorem dX4_isPossible_1 : decode cX4_isPossible 1 = .ok (.getfield 164, 3) := by decide +kernel
theorem dX4_isPossible_4 : decode cX4_isPossible 4 = .ok (.invokestatic 100, 3) := by decide +kernel
theorem dX4_isPossible_7 : decode cX4_isPossible 7 = .ok (.ifCond .eq 27, 3) := by decide +kernel
theorem dX4_isPossible_10 : decode cX4_isPossible 10 = .ok (.aload_n 0, 1) := by decide +kernel
theorem dX4_isPossible_11 : decode cX4_isPossible 11 = .ok (.getfield 167, 3) := by decide +kernel
theorem dX4_isPossible_14 : decode cX4_isPossible 14 = .ok (.invokestatic 43, 3) := by decide +kernel
theorem dX4_isPossible_17 : decode cX4_isPossible 17 = .ok (.ifCond .eq 17, 3) := by decide +kernel
theorem dX4_isPossible_20 : decode cX4_isPossible 20 = .ok (.aload_n 0, 1) := by decide +kernel
theorem dX4_isPossible_21 : decode cX4_isPossible 21 = .ok (.getfield 170, 3) := by decide +kernel
theorem dX4_isPossible_24 : decode cX4_isPossible 24 = .ok (.invokestatic 43, 3) := by decide +kernel
theorem dX4_isPossible_27 : decode cX4_isPossible 27 = .ok (.ifCond .eq 7, 3) := by decide +kernel
theorem dX4_isPossible_30 : decode cX4_isPossible 30 = .ok (.iconst 1, 1) := by decide +kernel
theorem dX4_isPossible_31 : decode cX4_isPossible 31 = .ok (.goto 4, 3) := by decide +kernel
theorem dX4_isPossible_34 : decode cX4_isPossible 34 = .ok (.iconst 0, 1) := by decide +kernel
theorem dX4_isPossible_35 : decode cX4_isPossible 35 = .ok (.ireturn, 1) := by decide +kernel
set_option maxRecDepth 20000 in
theorem ggX4_lay_X4_isDesk : GoodIn wsX4_lay wsX4_isDesk := goodIn_r _ [5] (by decide +kernel) (by decide +kernel)
set_option maxRecDepth 20000 in
theorem gX4_lay_X4_isDesk : GoodIn wsX4_lay (va_wsS RX4 43 yX4_isDesk wsX4_isDesk) := goodIn_app (goodIn_of _ (by decide +kernel)) ggX4_lay_X4_isDesk
theorem dX4_lay_0 : decode cX4_lay 0 = .ok (.iload_n 1, 1) := by decide +kernel
theorem dX4_lay_1 : decode cX4_lay 1 = .ok (.invokestatic 43, 3) := by decide +kernel
theorem dX4_lay_4 : decode cX4_lay 4 = .ok (.ifCond .ne 6, 3) := by decide +kernel
theorem dX4_lay_7 : decode cX4_lay 7 = .ok (.bipush (-99), 2) := by decide +kernel
theorem dX4_lay_9 : decode cX4_lay 9 = .ok (.ireturn, 1) := by decide +kernel
theorem dX4_lay_10 : decode cX4_lay 10 = .ok (.aload_n 0, 1) := by decide +kernel
theorem dX4_lay_11 : decode cX4_lay 11 = .ok (.getfield 21, 3) := by decide +kernel
theorem dX4_lay_14 : decode cX4_lay 14 = .ok (.iload_n 1, 1) := by decide +kernel
theorem dX4_lay_15 : decode cX4_lay 15 = .ok (.aload_n 2, 1) := by decide +kernel
theorem dX4_lay_16 : decode cX4_lay 16 = .ok (.aastore, 1) := by decide +kernel
theorem dX4_lay_17 : decode cX4_lay 17 = .ok (.iconst 0, 1) := by decide +kernel
theorem dX4_lay_18 : decode cX4_lay 18 = .ok (.ireturn, 1) := by decide +kernel
set_option maxRecDepth 20000 in
theorem ggX4_perform_X4_isPossible : GoodIn wsX4_perform wsX4_isPossible := goodIn_r _ [13, 2, 6, 7, 14, 15, 12, 16, 17, 18, 19, 102, 103, 104, 105, 106, 107] (by decide +kernel) (by decide +kernel)
set_option maxRecDepth 20000 in
theorem gX4_perform_X4_isPossible : GoodIn wsX4_perform (va_wsS RX4 86 yX4_isPossible wsX4_isPossible) := goodIn_app (goodIn_of _ (by decide +kernel)) ggX4_perform_X4_isPossible
set_option maxRecDepth 20000 in
theorem ggX4_perform_X4_transcribe : GoodIn wsX4_perform wsX4_transcribe := goodIn_r _ [22, 23, 4, 24, 25, 26, 12, 27, 28, 29, 30, 31, 32, 33, 34, 35, 36, 37, 38, 39, 40, 41, 42, 43, 44, 45, 46, 47, 48, 49, 50, 51, 52, 53, 54, 55, 56, 57, 58, 59, 60, 61, 62, 63, 64, 102, 103, 104, 105, 106, 107, 112, 113, 114] (by decide +kernel) (by decide +kernel)
set_option maxRecDepth 20000 in
theorem gX4_perform_X4_transcribe : GoodIn wsX4_perform (va_wsS RX4 176 yX4_transcribe wsX4_transcribe) := goodIn_app (goodIn_of _ (by decide +kernel)) ggX4_perform_X4_transcribe
set_option maxRecDepth 20000 in
theorem ggX4_perform_X4_signsCopied : GoodIn wsX4_perform wsX4_signsCopied := goodIn_r _ [67] (by decide +kernel) (by decide +kernel)
set_option maxRecDepth 20000 in
theorem gX4_perform_X4_signsCopied : GoodIn wsX4_perform (va_wsS RX4 180 yX4_signsCopied wsX4_signsCopied) := goodIn_app (goodIn_of _ (by decide +kernel)) ggX4_perform_X4_signsCopied
set_option maxRecDepth 20000 in
theorem ggX4_perform_X3_use : GoodIn wsX4_perform wsX3_use := goodIn_r _ [72, 73, 74, 108, 109, 110, 111] (by decide +kernel) (by decide +kernel)
set_option maxRecDepth 20000 in
theorem gX4_perform_X3_use : GoodIn wsX4_perform (wsV RX4 183 RX3 yX3_use wsX3_use) := goodIn_app (goodIn_of _ (by decide +kernel)) ggX4_perform_X3_use
set_option maxRecDepth 20000 in
theorem ggX4_perform_X4_tallyOf : GoodIn wsX4_perform wsX4_tallyOf := goodIn_r _ [77] (by decide +kernel) (by decide +kernel)
set_option maxRecDepth 20000 in
theorem gX4_perform_X4_tallyOf : GoodIn wsX4_perform (va_wsS RX4 187 yX4_tallyOf wsX4_tallyOf) := goodIn_app (goodIn_of _ (by decide +kernel)) ggX4_perform_X4_tallyOf
set_option maxRecDepth 20000 in
theorem ggX4_perform_X1_add : GoodIn wsX4_perform wsX1_add := goodIn_r _ [82, 83, 84, 85, 86, 87, 88, 89, 90, 91, 92, 93, 94, 95, 115, 116, 117, 118, 119, 120, 102, 103, 104, 105, 106, 107] (by decide +kernel) (by decide +kernel)
set_option maxRecDepth 20000 in
theorem gX4_perform_X1_add : GoodIn wsX4_perform (wsV RX4 190 RX1 yX1_add wsX1_add) := goodIn_app (goodIn_of _ (by decide +kernel)) ggX4_perform_X1_add
theorem dX4_perform_0 : decode cX4_perform 0 = .ok (.aload_n 1, 1) := by decide +kernel
theorem dX4_perform_1 : decode cX4_perform 1 = .ok (.invokestatic 86, 3) := by decide +kernel
theorem dX4_perform_4 : decode cX4_perform 4 = .ok (.ifCond .ne 6, 3) := by decide +kernel
theorem dX4_perform_7 : decode cX4_perform 7 = .ok (.bipush (-99), 2) := by decide +kernel
theorem dX4_perform_9 : decode cX4_perform 9 = .ok (.ireturn, 1) := by decide +kernel
theorem dX4_perform_10 : decode cX4_perform 10 = .ok (.aload_n 0, 1) := by decide +kernel
theorem dX4_perform_11 : decode cX4_perform 11 = .ok (.getfield 27, 3) := by decide +kernel
theorem dX4_perform_14 : decode cX4_perform 14 = .ok (.aload_n 1, 1) := by decide +kernel
theorem dX4_perform_15 : decode cX4_perform 15 = .ok (.getfield 164, 3) := by decide +kernel
theorem dX4_perform_18 : decode cX4_perform 18 = .ok (.aaload, 1) := by decide +kernel
theorem dX4_perform_19 : decode cX4_perform 19 = .ok (.astore_n 2, 1) := by decide +kernel
theorem dX4_perform_20 : decode cX4_perform 20 = .ok (.aload_n 2, 1) := by decide +kernel
theorem dX4_perform_21 : decode cX4_perform 21 = .ok (.getfield 103, 3) := by decide +kernel
theorem dX4_perform_24 : decode cX4_perform 24 = .ok (.aload_n 1, 1) := by decide +kernel
theorem dX4_perform_25 : decode cX4_perform 25 = .ok (.getfield 173, 3) := by decide +kernel
theorem dX4_perform_28 : decode cX4_perform 28 = .ok (.if_icmp .ge 6, 3) := by decide +kernel
theorem dX4_perform_31 : decode cX4_perform 31 = .ok (.bipush (-50), 2) := by decide +kernel
theorem dX4_perform_33 : decode cX4_perform 33 = .ok (.ireturn, 1) := by decide +kernel
theorem dX4_perform_34 : decode cX4_perform 34 = .ok (.aload_n 1, 1) := by decide +kernel
theorem dX4_perform_35 : decode cX4_perform 35 = .ok (.aload_n 0, 1) := by decide +kernel
theorem dX4_perform_36 : decode cX4_perform 36 = .ok (.getfield 21, 3) := by decide +kernel
theorem dX4_perform_39 : decode cX4_perform 39 = .ok (.aload_n 1, 1) := by decide +kernel
theorem dX4_perform_40 : decode cX4_perform 40 = .ok (.getfield 167, 3) := by decide +kernel
theorem dX4_perform_43 : decode cX4_perform 43 = .ok (.aaload, 1) := by decide +kernel
theorem dX4_perform_44 : decode cX4_perform 44 = .ok (.aload_n 0, 1) := by decide +kernel
theorem dX4_perform_45 : decode cX4_perform 45 = .ok (.getfield 21, 3) := by decide +kernel
theorem dX4_perform_48 : decode cX4_perform 48 = .ok (.aload_n 1, 1) := by decide +kernel
theorem dX4_perform_49 : decode cX4_perform 49 = .ok (.getfield 170, 3) := by decide +kernel
theorem dX4_perform_52 : decode cX4_perform 52 = .ok (.aaload, 1) := by decide +kernel
theorem dX4_perform_53 : decode cX4_perform 53 = .ok (.invokestatic 176, 3) := by decide +kernel
theorem dX4_perform_56 : decode cX4_perform 56 = .ok (.istore_n 3, 1) := by decide +kernel
theorem dX4_perform_57 : decode cX4_perform 57 = .ok (.iload_n 3, 1) := by decide +kernel
theorem dX4_perform_58 : decode cX4_perform 58 = .ok (.invokestatic 180, 3) := by decide +kernel
theorem dX4_perform_61 : decode cX4_perform 61 = .ok (.istore 4, 2) := by decide +kernel
theorem dX4_perform_63 : decode cX4_perform 63 = .ok (.aload_n 2, 1) := by decide +kernel
theorem dX4_perform_64 : decode cX4_perform 64 = .ok (.iload 4, 2) := by decide +kernel
theorem dX4_perform_66 : decode cX4_perform 66 = .ok (.invokevirtual 183, 3) := by decide +kernel
theorem dX4_perform_69 : decode cX4_perform 69 = .ok (.aload_n 0, 1) := by decide +kernel
theorem dX4_perform_70 : decode cX4_perform 70 = .ok (.getfield 39, 3) := by decide +kernel
theorem dX4_perform_73 : decode cX4_perform 73 = .ok (.iconst 0, 1) := by decide +kernel
theorem dX4_perform_74 : decode cX4_perform 74 = .ok (.dup2, 1) := by decide +kernel
theorem dX4_perform_75 : decode cX4_perform 75 = .ok (.iaload, 1) := by decide +kernel
theorem dX4_perform_76 : decode cX4_perform 76 = .ok (.iconst 1, 1) := by decide +kernel
theorem dX4_perform_77 : decode cX4_perform 77 = .ok (.iadd, 1) := by decide +kernel
theorem dX4_perform_78 : decode cX4_perform 78 = .ok (.iastore, 1) := by decide +kernel
theorem dX4_perform_79 : decode cX4_perform 79 = .ok (.aload_n 0, 1) := by decide +kernel
theorem dX4_perform_80 : decode cX4_perform 80 = .ok (.getfield 39, 3) := by decide +kernel
theorem dX4_perform_83 : decode cX4_perform 83 = .ok (.iload_n 3, 1) := by decide +kernel
theorem dX4_perform_84 : decode cX4_perform 84 = .ok (.invokestatic 187, 3) := by decide +kernel
theorem dX4_perform_87 : decode cX4_perform 87 = .ok (.dup2, 1) := by decide +kernel
theorem dX4_perform_88 : decode cX4_perform 88 = .ok (.iaload, 1) := by decide +kernel
theorem dX4_perform_89 : decode cX4_perform 89 = .ok (.iconst 1, 1) := by decide +kernel
theorem dX4_perform_90 : decode cX4_perform 90 = .ok (.iadd, 1) := by decide +kernel
theorem dX4_perform_91 : decode cX4_perform 91 = .ok (.iastore, 1) := by decide +kernel
theorem dX4_perform_92 : decode cX4_perform 92 = .ok (.aload_n 0, 1) := by decide +kernel
theorem dX4_perform_93 : decode cX4_perform 93 = .ok (.getfield 39, 3) := by decide +kernel
theorem dX4_perform_96 : decode cX4_perform 96 = .ok (.bipush 6, 2) := by decide +kernel
theorem dX4_perform_98 : decode cX4_perform 98 = .ok (.dup2, 1) := by decide +kernel
theorem dX4_perform_99 : decode cX4_perform 99 = .ok (.iaload, 1) := by decide +kernel
theorem dX4_perform_100 : decode cX4_perform 100 = .ok (.iload 4, 2) := by decide +kernel
theorem dX4_perform_102 : decode cX4_perform 102 = .ok (.iadd, 1) := by decide +kernel
theorem dX4_perform_103 : decode cX4_perform 103 = .ok (.iastore, 1) := by decide +kernel
theorem dX4_perform_104 : decode cX4_perform 104 = .ok (.aload_n 0, 1) := by decide +kernel
theorem dX4_perform_105 : decode cX4_perform 105 = .ok (.getfield 35, 3) := by decide +kernel
theorem dX4_perform_108 : decode cX4_perform 108 = .ok (.aload_n 1, 1) := by decide +kernel
theorem dX4_perform_109 : decode cX4_perform 109 = .ok (.iload_n 3, 1) := by decide +kernel
theorem dX4_perform_110 : decode cX4_perform 110 = .ok (.invokevirtual 190, 3) := by decide +kernel
theorem dX4_perform_113 : decode cX4_perform 113 = .ok (.iload_n 3, 1) := by decide +kernel
theorem dX4_perform_114 : decode cX4_perform 114 = .ok (.ireturn, 1) := by decide +kernel
set_option maxRecDepth 20000 in
theorem ggX4_transcribe_X4_hindranceBetween : GoodIn wsX4_transcribe wsX4_hindranceBetween := goodIn_r _ [7, 8, 9, 10, 11, 12, 13, 14, 15, 16, 17, 18, 19, 20, 21, 22, 51, 52, 53] (by decide +kernel) (by decide +kernel)
set_option maxRecDepth 20000 in
theorem gX4_transcribe_X4_hindranceBetween : GoodIn wsX4_transcribe (va_wsS RX4 138 yX4_hindranceBetween wsX4_hindranceBetween) := goodIn_app (goodIn_of _ (by decide +kernel)) ggX4_transcribe_X4_hindranceBetween
set_option maxRecDepth 20000 in
theorem ggX4_transcribe_X0_hasRun : GoodIn wsX4_transcribe wsX0_hasRun := goodIn_r _ [26, 27, 51, 52, 53] (by decide +kernel) (by decide +kernel)
set_option maxRecDepth 20000 in
theorem gX4_transcribe_X0_hasRun : GoodIn wsX4_transcribe (wsV RX4 197 RX0 yX0_hasRun wsX0_hasRun) := goodIn_app (goodIn_of _ (by decide +kernel)) ggX4_transcribe_X0_hasRun
set_option maxRecDepth 20000 in
theorem ggX4_transcribe_X0_fittingOf : GoodIn wsX4_transcribe wsX0_fittingOf := goodIn_r _ [31, 32, 33, 34, 35, 12, 36, 14, 51, 52, 53] (by decide +kernel) (by decide +kernel)
set_option maxRecDepth 20000 in
theorem gX4_transcribe_X0_fittingOf : GoodIn wsX4_transcribe (wsV RX4 204 RX0 yX0_fittingOf wsX0_fittingOf) := goodIn_app (goodIn_of _ (by decide +kernel)) ggX4_transcribe_X0_fittingOf
set_option maxRecDepth 20000 in
theorem ggX4_transcribe_X0_take : GoodIn wsX4_transcribe wsX0_take := goodIn_r _ [40, 27, 41, 42, 43, 44, 32, 51, 52, 53] (by decide +kernel) (by decide +kernel)
set_option maxRecDepth 20000 in
theorem gX4_transcribe_X0_take : GoodIn wsX4_transcribe (wsV RX4 208 RX0 yX0_take wsX0_take) := goodIn_app (goodIn_of _ (by decide +kernel)) ggX4_transcribe_X0_take
theorem dX4_transcribe_0 : decode cX4_transcribe 0 = .ok (.aload_n 1, 1) := by decide +kernel
theorem dX4_transcribe_1 : decode cX4_transcribe 1 = .ok (.aload_n 2, 1) := by decide +kernel
theorem dX4_transcribe_2 : decode cX4_transcribe 2 = .ok (.invokestatic 138, 3) := by decide +kernel
theorem dX4_transcribe_5 : decode cX4_transcribe 5 = .ok (.istore_n 3, 1) := by decide +kernel
theorem dX4_transcribe_6 : decode cX4_transcribe 6 = .ok (.iload_n 3, 1) := by decide +kernel
theorem dX4_transcribe_7 : decode cX4_transcribe 7 = .ok (.ifCond .eq 5, 3) := by decide +kernel
theorem dX4_transcribe_10 : decode cX4_transcribe 10 = .ok (.iload_n 3, 1) := by decide +kernel
theorem dX4_transcribe_11 : decode cX4_transcribe 11 = .ok (.ireturn, 1) := by decide +kernel
theorem dX4_transcribe_12 : decode cX4_transcribe 12 = .ok (.aload_n 1, 1) := by decide +kernel
theorem dX4_transcribe_13 : decode cX4_transcribe 13 = .ok (.aload_n 0, 1) := by decide +kernel
theorem dX4_transcribe_14 : decode cX4_transcribe 14 = .ok (.getfield 194, 3) := by decide +kernel
theorem dX4_transcribe_17 : decode cX4_transcribe 17 = .ok (.aload_n 0, 1) := by decide +kernel
theorem dX4_transcribe_18 : decode cX4_transcribe 18 = .ok (.getfield 173, 3) := by decide +kernel
theorem dX4_transcribe_21 : decode cX4_transcribe 21 = .ok (.invokevirtual 197, 3) := by decide +kernel
theorem dX4_transcribe_24 : decode cX4_transcribe 24 = .ok (.ifCond .eq 18, 3) := by decide +kernel
theorem dX4_transcribe_27 : decode cX4_transcribe 27 = .ok (.aload_n 2, 1) := by decide +kernel
theorem dX4_transcribe_28 : decode cX4_transcribe 28 = .ok (.aload_n 0, 1) := by decide +kernel
theorem dX4_transcribe_29 : decode cX4_transcribe 29 = .ok (.getfield 201, 3) := by decide +kernel
theorem dX4_transcribe_32 : decode cX4_transcribe 32 = .ok (.aload_n 0, 1) := by decide +kernel
theorem dX4_transcribe_33 : decode cX4_transcribe 33 = .ok (.getfield 173, 3) := by decide +kernel
theorem dX4_transcribe_36 : decode cX4_transcribe 36 = .ok (.invokevirtual 197, 3) := by decide +kernel
theorem dX4_transcribe_39 : decode cX4_transcribe 39 = .ok (.ifCond .ne 6, 3) := by decide +kernel
theorem dX4_transcribe_42 : decode cX4_transcribe 42 = .ok (.bipush (-3), 2) := by decide +kernel
theorem dX4_transcribe_44 : decode cX4_transcribe 44 = .ok (.ireturn, 1) := by decide +kernel
theorem dX4_transcribe_45 : decode cX4_transcribe 45 = .ok (.aload_n 2, 1) := by decide +kernel
theorem dX4_transcribe_46 : decode cX4_transcribe 46 = .ok (.aload_n 1, 1) := by decide +kernel
theorem dX4_transcribe_47 : decode cX4_transcribe 47 = .ok (.aload_n 0, 1) := by decide +kernel
theorem dX4_transcribe_48 : decode cX4_transcribe 48 = .ok (.getfield 194, 3) := by decide +kernel
theorem dX4_transcribe_51 : decode cX4_transcribe 51 = .ok (.aload_n 0, 1) := by decide +kernel
theorem dX4_transcribe_52 : decode cX4_transcribe 52 = .ok (.getfield 173, 3) := by decide +kernel
theorem dX4_transcribe_55 : decode cX4_transcribe 55 = .ok (.invokevirtual 204, 3) := by decide +kernel
theorem dX4_transcribe_58 : decode cX4_transcribe 58 = .ok (.istore 4, 2) := by decide +kernel
theorem dX4_transcribe_60 : decode cX4_transcribe 60 = .ok (.aload_n 2, 1) := by decide +kernel
theorem dX4_transcribe_61 : decode cX4_transcribe 61 = .ok (.aload_n 1, 1) := by decide +kernel
theorem dX4_transcribe_62 : decode cX4_transcribe 62 = .ok (.aload_n 0, 1) := by decide +kernel
theorem dX4_transcribe_63 : decode cX4_transcribe 63 = .ok (.getfield 194, 3) := by decide +kernel
theorem dX4_transcribe_66 : decode cX4_transcribe 66 = .ok (.aload_n 0, 1) := by decide +kernel
theorem dX4_transcribe_67 : decode cX4_transcribe 67 = .ok (.getfield 201, 3) := by decide +kernel
theorem dX4_transcribe_70 : decode cX4_transcribe 70 = .ok (.iload 4, 2) := by decide +kernel
theorem dX4_transcribe_72 : decode cX4_transcribe 72 = .ok (.invokevirtual 208, 3) := by decide +kernel
theorem dX4_transcribe_75 : decode cX4_transcribe 75 = .ok (.iload 4, 2) := by decide +kernel
theorem dX4_transcribe_77 : decode cX4_transcribe 77 = .ok (.aload_n 0, 1) := by decide +kernel
theorem dX4_transcribe_78 : decode cX4_transcribe 78 = .ok (.getfield 173, 3) := by decide +kernel
theorem dX4_transcribe_81 : decode cX4_transcribe 81 = .ok (.if_icmp .ge 11, 3) := by decide +kernel
theorem dX4_transcribe_84 : decode cX4_transcribe 84 = .ok (.bipush (-10), 2) := by decide +kernel
theorem dX4_transcribe_86 : decode cX4_transcribe 86 = .ok (.iload 4, 2) := by decide +kernel
theorem dX4_transcribe_88 : decode cX4_transcribe 88 = .ok (.isub, 1) := by decide +kernel
theorem dX4_transcribe_89 : decode cX4_transcribe 89 = .ok (.goto 7, 3) := by decide +kernel
theorem dX4_transcribe_92 : decode cX4_transcribe 92 = .ok (.aload_n 0, 1) := by decide +kernel
theorem dX4_transcribe_93 : decode cX4_transcribe 93 = .ok (.getfield 173, 3) := by decide +kernel
theorem dX4_transcribe_96 : decode cX4_transcribe 96 = .ok (.ireturn, 1) := by decide +kernel
set_option maxRecDepth 20000 in
theorem ggX4_hindranceBetween_X0_isAlike : GoodIn wsX4_hindranceBetween wsX0_isAlike := goodIn_r _ [6, 7, 8, 9, 10, 5, 11, 12, 13, 14, 15, 16, 17, 18] (by decide +kernel) (by decide +kernel)
set_option maxRecDepth 20000 in
theorem gX4_hindranceBetween_X0_isAlike : GoodIn wsX4_hindranceBetween (wsV RX4 212 RX0 yX0_isAlike wsX0_isAlike) := goodIn_app (goodIn_of _ (by decide +kernel)) ggX4_hindranceBetween_X0_isAlike
theorem dX4_hindranceBetween_0 : decode cX4_hindranceBetween 0 = .ok (.aload_n 0, 1) := by decide +kernel
theorem dX4_hindranceBetween_1 : decode cX4_hindranceBetween 1 = .ok (.getfield 58, 3) := by decide +kernel
theorem dX4_hindranceBetween_4 : decode cX4_hindranceBetween 4 = .ok (.iconst (-1), 1) := by decide +kernel
theorem dX4_hindranceBetween_5 : decode cX4_hindranceBetween 5 = .ok (.if_icmp .eq 11, 3) := by decide +kernel
theorem dX4_hindranceBetween_8 : decode cX4_hindranceBetween 8 = .ok (.aload_n 1, 1) := by decide +kernel
theorem dX4_hindranceBetween_9 : decode cX4_hindranceBetween 9 = .ok (.getfield 58, 3) := by decide +kernel
theorem dX4_hindranceBetween_12 : decode cX4_hindranceBetween 12 = .ok (.iconst (-1), 1) := by decide +kernel
theorem dX4_hindranceBetween_13 : decode cX4_hindranceBetween 13 = .ok (.if_icmp .ne 5, 3) := by decide +kernel
theorem dX4_hindranceBetween_16 : decode cX4_hindranceBetween 16 = .ok (.iconst (-1), 1) := by decide +kernel
theorem dX4_hindranceBetween_17 : decode cX4_hindranceBetween 17 = .ok (.ireturn, 1) := by decide +kernel
theorem dX4_hindranceBetween_18 : decode cX4_hindranceBetween 18 = .ok (.aload_n 0, 1) := by decide +kernel
theorem dX4_hindranceBetween_19 : decode cX4_hindranceBetween 19 = .ok (.aload_n 1, 1) := by decide +kernel
theorem dX4_hindranceBetween_20 : decode cX4_hindranceBetween 20 = .ok (.invokevirtual 212, 3) := by decide +kernel
theorem dX4_hindranceBetween_23 : decode cX4_hindranceBetween 23 = .ok (.ifCond .eq 7, 3) := by decide +kernel
theorem dX4_hindranceBetween_26 : decode cX4_hindranceBetween 26 = .ok (.iconst 0, 1) := by decide +kernel
theorem dX4_hindranceBetween_27 : decode cX4_hindranceBetween 27 = .ok (.goto 5, 3) := by decide +kernel
theorem dX4_hindranceBetween_30 : decode cX4_hindranceBetween 30 = .ok (.bipush (-2), 2) := by decide +kernel
theorem dX4_hindranceBetween_32 : decode cX4_hindranceBetween 32 = .ok (.ireturn, 1) := by decide +kernel
set_option maxRecDepth 20000 in
theorem ggX4_firstDifference_X0_length : GoodIn wsX4_firstDifference wsX0_length := goodIn_r _ [11, 12, 13, 14, 15] (by decide +kernel) (by decide +kernel)
set_option maxRecDepth 20000 in
theorem gX4_firstDifference_X0_length : GoodIn wsX4_firstDifference (wsV RX4 134 RX0 yX0_length wsX0_length) := goodIn_app (goodIn_of _ (by decide +kernel)) ggX4_firstDifference_X0_length
theorem dX4_firstDifference_0 : decode cX4_firstDifference 0 = .ok (.aload_n 0, 1) := by decide +kernel
theorem dX4_firstDifference_1 : decode cX4_firstDifference 1 = .ok (.invokevirtual 134, 3) := by decide +kernel
theorem dX4_firstDifference_4 : decode cX4_firstDifference 4 = .ok (.aload_n 1, 1) := by decide +kernel
theorem dX4_firstDifference_5 : decode cX4_firstDifference 5 = .ok (.invokevirtual 134, 3) := by decide +kernel
theorem dX4_firstDifference_8 : decode cX4_firstDifference 8 = .ok (.invokestatic 106, 3) := by decide +kernel
theorem dX4_firstDifference_11 : decode cX4_firstDifference 11 = .ok (.istore_n 2, 1) := by decide +kernel
theorem dX4_firstDifference_12 : decode cX4_firstDifference 12 = .ok (.iconst 0, 1) := by decide +kernel
theorem dX4_firstDifference_13 : decode cX4_firstDifference 13 = .ok (.istore_n 3, 1) := by decide +kernel
theorem dX4_firstDifference_14 : decode cX4_firstDifference 14 = .ok (.iload_n 3, 1) := by decide +kernel
theorem dX4_firstDifference_15 : decode cX4_firstDifference 15 = .ok (.iload_n 2, 1) := by decide +kernel
theorem dX4_firstDifference_16 : decode cX4_firstDifference 16 = .ok (.if_icmp .ge 42, 3) := by decide +kernel
theorem dX4_firstDifference_19 : decode cX4_firstDifference 19 = .ok (.aload_n 0, 1) := by decide +kernel
theorem dX4_firstDifference_20 : decode cX4_firstDifference 20 = .ok (.getfield 69, 3) := by decide +kernel
theorem dX4_firstDifference_23 : decode cX4_firstDifference 23 = .ok (.iload_n 3, 1) := by decide +kernel
theorem dX4_firstDifference_24 : decode cX4_firstDifference 24 = .ok (.laload, 1) := by decide +kernel
theorem dX4_firstDifference_25 : decode cX4_firstDifference 25 = .ok (.aload_n 1, 1) := by decide +kernel
theorem dX4_firstDifference_26 : decode cX4_firstDifference 26 = .ok (.getfield 69, 3) := by decide +kernel
theorem dX4_firstDifference_29 : decode cX4_firstDifference 29 = .ok (.iload_n 3, 1) := by decide +kernel
theorem dX4_firstDifference_30 : decode cX4_firstDifference 30 = .ok (.laload, 1) := by decide +kernel
theorem dX4_firstDifference_31 : decode cX4_firstDifference 31 = .ok (.lcmp, 1) := by decide +kernel
theorem dX4_firstDifference_32 : decode cX4_firstDifference 32 = .ok (.ifCond .ne 18, 3) := by decide +kernel
theorem dX4_firstDifference_35 : decode cX4_firstDifference 35 = .ok (.aload_n 0, 1) := by decide +kernel
theorem dX4_firstDifference_36 : decode cX4_firstDifference 36 = .ok (.getfield 216, 3) := by decide +kernel
theorem dX4_firstDifference_39 : decode cX4_firstDifference 39 = .ok (.iload_n 3, 1) := by decide +kernel
theorem dX4_firstDifference_40 : decode cX4_firstDifference 40 = .ok (.iaload, 1) := by decide +kernel
theorem dX4_firstDifference_41 : decode cX4_firstDifference 41 = .ok (.aload_n 1, 1) := by decide +kernel
theorem dX4_firstDifference_42 : decode cX4_firstDifference 42 = .ok (.getfield 216, 3) := by decide +kernel
theorem dX4_firstDifference_45 : decode cX4_firstDifference 45 = .ok (.iload_n 3, 1) := by decide +kernel
theorem dX4_firstDifference_46 : decode cX4_firstDifference 46 = .ok (.iaload, 1) := by decide +kernel
theorem dX4_firstDifference_47 : decode cX4_firstDifference 47 = .ok (.if_icmp .eq 5, 3) := by decide +kernel
theorem dX4_firstDifference_50 : decode cX4_firstDifference 50 = .ok (.iload_n 3, 1) := by decide +kernel
theorem dX4_firstDifference_51 : decode cX4_firstDifference 51 = .ok (.ireturn, 1) := by decide +kernel
theorem dX4_firstDifference_52 : decode cX4_firstDifference 52 = .ok (.iinc 3 1, 3) := by decide +kernel
theorem dX4_firstDifference_55 : decode cX4_firstDifference 55 = .ok (.goto (-41), 3) := by decide +kernel
theorem dX4_firstDifference_58 : decode cX4_firstDifference 58 = .ok (.aload_n 0, 1) := by decide +kernel
theorem dX4_firstDifference_59 : decode cX4_firstDifference 59 = .ok (.invokevirtual 134, 3) := by decide +kernel
theorem dX4_firstDifference_62 : decode cX4_firstDifference 62 = .ok (.aload_n 1, 1) := by decide +kernel
theorem dX4_firstDifference_63 : decode cX4_firstDifference 63 = .ok (.invokevirtual 134, 3) := by decide +kernel
theorem dX4_firstDifference_66 : decode cX4_firstDifference 66 = .ok (.if_icmp .ne 8, 3) := by decide +kernel
theorem dX4_firstDifference_69 : decode cX4_firstDifference 69 = .ok (.bipush (-60), 2) := by decide +kernel
theorem dX4_firstDifference_71 : decode cX4_firstDifference 71 = .ok (.goto 4, 3) := by decide +kernel
theorem dX4_firstDifference_74 : decode cX4_firstDifference 74 = .ok (.iload_n 2, 1) := by decide +kernel
theorem dX4_firstDifference_75 : decode cX4_firstDifference 75 = .ok (.ireturn, 1) := by decide +kernel
theorem dX4_signsCopied_0 : decode cX4_signsCopied 0 = .ok (.iload_n 0, 1) := by decide +kernel
theorem dX4_signsCopied_1 : decode cX4_signsCopied 1 = .ok (.ifCond .lt 5, 3) := by decide +kernel
theorem dX4_signsCopied_4 : decode cX4_signsCopied 4 = .ok (.iload_n 0, 1) := by decide +kernel
theorem dX4_signsCopied_5 : decode cX4_signsCopied 5 = .ok (.ireturn, 1) := by decide +kernel
theorem dX4_signsCopied_6 : decode cX4_signsCopied 6 = .ok (.iload_n 0, 1) := by decide +kernel
theorem dX4_signsCopied_7 : decode cX4_signsCopied 7 = .ok (.bipush (-10), 2) := by decide +kernel
theorem dX4_signsCopied_9 : decode cX4_signsCopied 9 = .ok (.if_icmp .gt 10, 3) := by decide +kernel
theorem dX4_signsCopied_12 : decode cX4_signsCopied 12 = .ok (.bipush (-10), 2) := by decide +kernel
theorem dX4_signsCopied_14 : decode cX4_signsCopied 14 = .ok (.iload_n 0, 1) := by decide +kernel
theorem dX4_signsCopied_15 : decode cX4_signsCopied 15 = .ok (.isub, 1) := by decide +kernel
theorem dX4_signsCopied_16 : decode cX4_signsCopied 16 = .ok (.goto 4, 3) := by decide +kernel
theorem dX4_signsCopied_19 : decode cX4_signsCopied 19 = .ok (.iconst 0, 1) := by decide +kernel
theorem dX4_signsCopied_20 : decode cX4_signsCopied 20 = .ok (.ireturn, 1) := by decide +kernel
theorem dX4_tallyOf_0 : decode cX4_tallyOf 0 = .ok (.iload_n 0, 1) := by decide +kernel
theorem dX4_tallyOf_1 : decode cX4_tallyOf 1 = .ok (.tableswitch 33 (-3) (-1) #[31, 29, 27], 27) := by decide +kernel
theorem dX4_tallyOf_28 : decode cX4_tallyOf 28 = .ok (.iconst 2, 1) := by decide +kernel
theorem dX4_tallyOf_29 : decode cX4_tallyOf 29 = .ok (.ireturn, 1) := by decide +kernel
theorem dX4_tallyOf_30 : decode cX4_tallyOf 30 = .ok (.iconst 3, 1) := by decide +kernel
theorem dX4_tallyOf_31 : decode cX4_tallyOf 31 = .ok (.ireturn, 1) := by decide +kernel
theorem dX4_tallyOf_32 : decode cX4_tallyOf 32 = .ok (.iconst 4, 1) := by decide +kernel
theorem dX4_tallyOf_33 : decode cX4_tallyOf 33 = .ok (.ireturn, 1) := by decide +kernel
theorem dX4_tallyOf_34 : decode cX4_tallyOf 34 = .ok (.iload_n 0, 1) := by decide +kernel
theorem dX4_tallyOf_35 : decode cX4_tallyOf 35 = .ok (.ifCond .lt 7, 3) := by decide +kernel
theorem dX4_tallyOf_38 : decode cX4_tallyOf 38 = .ok (.iconst 1, 1) := by decide +kernel
theorem dX4_tallyOf_39 : decode cX4_tallyOf 39 = .ok (.goto 4, 3) := by decide +kernel
theorem dX4_tallyOf_42 : decode cX4_tallyOf 42 = .ok (.iconst 5, 1) := by decide +kernel
theorem dX4_tallyOf_43 : decode cX4_tallyOf 43 = .ok (.ireturn, 1) := by decide +kernel
theorem dX5_init_0 : decode cX5_init 0 = .ok (.aload_n 0, 1) := by decide +kernel
theorem dX5_init_1 : decode cX5_init 1 = .ok (.invokespecial 1, 3) := by decide +kernel
theorem dX5_init_4 : decode cX5_init 4 = .ok (.aload_n 0, 1) := by decide +kernel
theorem dX5_init_5 : decode cX5_init 5 = .ok (.bipush 6, 2) := by decide +kernel
theorem dX5_init_7 : decode cX5_init 7 = .ok (.newarray .int, 2) := by decide +kernel
theorem dX5_init_9 : decode cX5_init 9 = .ok (.dup, 1) := by decide +kernel
theorem dX5_init_10 : decode cX5_init 10 = .ok (.iconst 0, 1) := by decide +kernel
theorem dX5_init_11 : decode cX5_init 11 = .ok (.iconst (-1), 1) := by decide +kernel
theorem dX5_init_12 : decode cX5_init 12 = .ok (.iastore, 1) := by decide +kernel
theorem dX5_init_13 : decode cX5_init 13 = .ok (.dup, 1) := by decide +kernel
theorem dX5_init_14 : decode cX5_init 14 = .ok (.iconst 1, 1) := by decide +kernel
theorem dX5_init_15 : decode cX5_init 15 = .ok (.iconst (-1), 1) := by decide +kernel
theorem dX5_init_16 : decode cX5_init 16 = .ok (.iastore, 1) := by decide +kernel
theorem dX5_init_17 : decode cX5_init 17 = .ok (.dup, 1) := by decide +kernel
theorem dX5_init_18 : decode cX5_init 18 = .ok (.iconst 2, 1) := by decide +kernel
theorem dX5_init_19 : decode cX5_init 19 = .ok (.iconst (-1), 1) := by decide +kernel
theorem dX5_init_20 : decode cX5_init 20 = .ok (.iastore, 1) := by decide +kernel
theorem dX5_init_21 : decode cX5_init 21 = .ok (.dup, 1) := by decide +kernel
theorem dX5_init_22 : decode cX5_init 22 = .ok (.iconst 3, 1) := by decide +kernel
theorem dX5_init_23 : decode cX5_init 23 = .ok (.iconst (-1), 1) := by decide +kernel
theorem dX5_init_24 : decode cX5_init 24 = .ok (.iastore, 1) := by decide +kernel
theorem dX5_init_25 : decode cX5_init 25 = .ok (.dup, 1) := by decide +kernel
theorem dX5_init_26 : decode cX5_init 26 = .ok (.iconst 4, 1) := by decide +kernel
theorem dX5_init_27 : decode cX5_init 27 = .ok (.iconst (-1), 1) := by decide +kernel
theorem dX5_init_28 : decode cX5_init 28 = .ok (.iastore, 1) := by decide +kernel
theorem dX5_init_29 : decode cX5_init 29 = .ok (.dup, 1) := by decide +kernel
theorem dX5_init_30 : decode cX5_init 30 = .ok (.iconst 5, 1) := by decide +kernel
theorem dX5_init_31 : decode cX5_init 31 = .ok (.iconst (-1), 1) := by decide +kernel
theorem dX5_init_32 : decode cX5_init 32 = .ok (.iastore, 1) := by decide +kernel
theorem dX5_init_33 : decode cX5_init 33 = .ok (.putfield 7, 3) := by decide +kernel
theorem dX5_init_36 : decode cX5_init 36 = .ok (.aload_n 0, 1) := by decide +kernel
theorem dX5_init_37 : decode cX5_init 37 = .ok (.bipush 6, 2) := by decide +kernel
end
section
theorem dX5_init_39 : decode cX5_init 39 = .ok (.newarray .int, 2) := by decide +kernel
theorem dX5_init_41 : decode cX5_init 41 = .ok (.putfield 13, 3) := by decide +kernel
theorem dX5_init_44 : decode cX5_init 44 = .ok (.aload_n 0, 1) := by decide +kernel
theorem dX5_init_45 : decode cX5_init 45 = .ok (.bipush 6, 2) := by decide +kernel
theorem dX5_init_47 : decode cX5_init 47 = .ok (.newarray .int, 2) := by decide +kernel
theorem dX5_init_49 : decode cX5_init 49 = .ok (.putfield 16, 3) := by decide +kernel
theorem dX5_init_52 : decode cX5_init 52 = .ok (.aload_n 0, 1) := by decide +kernel
theorem dX5_init_53 : decode cX5_init 53 = .ok (.sipush 240, 3) := by decide +kernel
theorem dX5_init_56 : decode cX5_init 56 = .ok (.newarray .long, 2) := by decide +kernel
theorem dX5_init_58 : decode cX5_init 58 = .ok (.putfield 19, 3) := by decide +kernel
theorem dX5_init_61 : decode cX5_init 61 = .ok (.aload_n 0, 1) := by decide +kernel
theorem dX5_init_62 : decode cX5_init 62 = .ok (.iconst 3, 1) := by decide +kernel
theorem dX5_init_63 : decode cX5_init 63 = .ok (.newarray .int, 2) := by decide +kernel
theorem dX5_init_65 : decode cX5_init 65 = .ok (.dup, 1) := by decide +kernel
theorem dX5_init_66 : decode cX5_init 66 = .ok (.iconst 0, 1) := by decide +kernel
theorem dX5_init_67 : decode cX5_init 67 = .ok (.bipush 100, 2) := by decide +kernel
theorem dX5_init_69 : decode cX5_init 69 = .ok (.iastore, 1) := by decide +kernel
theorem dX5_init_70 : decode cX5_init 70 = .ok (.dup, 1) := by decide +kernel
theorem dX5_init_71 : decode cX5_init 71 = .ok (.iconst 1, 1) := by decide +kernel
theorem dX5_init_72 : decode cX5_init 72 = .ok (.bipush 100, 2) := by decide +kernel
theorem dX5_init_74 : decode cX5_init 74 = .ok (.iastore, 1) := by decide +kernel
theorem dX5_init_75 : decode cX5_init 75 = .ok (.dup, 1) := by decide +kernel
theorem dX5_init_76 : decode cX5_init 76 = .ok (.iconst 2, 1) := by decide +kernel
theorem dX5_init_77 : decode cX5_init 77 = .ok (.bipush 100, 2) := by decide +kernel
theorem dX5_init_79 : decode cX5_init 79 = .ok (.iastore, 1) := by decide +kernel
theorem dX5_init_80 : decode cX5_init 80 = .ok (.putfield 23, 3) := by decide +kernel
theorem dX5_init_83 : decode cX5_init 83 = .ok (.aload_n 0, 1) := by decide +kernel
theorem dX5_init_84 : decode cX5_init 84 = .ok (.iconst 3, 1) := by decide +kernel
theorem dX5_init_85 : decode cX5_init 85 = .ok (.newarray .int, 2) := by decide +kernel
theorem dX5_init_87 : decode cX5_init 87 = .ok (.putfield 26, 3) := by decide +kernel
theorem dX5_init_90 : decode cX5_init 90 = .ok (.aload_n 0, 1) := by decide +kernel
theorem dX5_init_91 : decode cX5_init 91 = .ok (.bipush 120, 2) := by decide +kernel
theorem dX5_init_93 : decode cX5_init 93 = .ok (.newarray .int, 2) := by decide +kernel
theorem dX5_init_95 : decode cX5_init 95 = .ok (.putfield 29, 3) := by decide +kernel
theorem dX5_init_98 : decode cX5_init 98 = .ok (.aload_n 0, 1) := by decide +kernel
theorem dX5_init_99 : decode cX5_init 99 = .ok (.iconst 3, 1) := by decide +kernel
theorem dX5_init_100 : decode cX5_init 100 = .ok (.newarray .int, 2) := by decide +kernel
theorem dX5_init_102 : decode cX5_init 102 = .ok (.putfield 32, 3) := by decide +kernel
theorem dX5_init_105 : decode cX5_init 105 = .ok (.aload_n 0, 1) := by decide +kernel
theorem dX5_init_106 : decode cX5_init 106 = .ok (.bipush 64, 2) := by decide +kernel
theorem dX5_init_108 : decode cX5_init 108 = .ok (.newarray .int, 2) := by decide +kernel
theorem dX5_init_110 : decode cX5_init 110 = .ok (.putfield 35, 3) := by decide +kernel
theorem dX5_init_113 : decode cX5_init 113 = .ok (.aload_n 0, 1) := by decide +kernel
theorem dX5_init_114 : decode cX5_init 114 = .ok (.bipush 8, 2) := by decide +kernel
theorem dX5_init_116 : decode cX5_init 116 = .ok (.newarray .int, 2) := by decide +kernel
theorem dX5_init_118 : decode cX5_init 118 = .ok (.putfield 38, 3) := by decide +kernel
theorem dX5_init_121 : decode cX5_init 121 = .ok (.return_, 1) := by decide +kernel
theorem dX5_thrown_0 : decode cX5_thrown 0 = .ok (.aload_n 0, 1) := by decide +kernel
theorem dX5_thrown_1 : decode cX5_thrown 1 = .ok (.getfield 41, 3) := by decide +kernel
theorem dX5_thrown_4 : decode cX5_thrown 4 = .ok (.ireturn, 1) := by decide +kernel
theorem dX5_isDesk_0 : decode cX5_isDesk 0 = .ok (.iload_n 0, 1) := by decide +kernel
theorem dX5_isDesk_1 : decode cX5_isDesk 1 = .ok (.ifCond .lt 13, 3) := by decide +kernel
theorem dX5_isDesk_4 : decode cX5_isDesk 4 = .ok (.iload_n 0, 1) := by decide +kernel
theorem dX5_isDesk_5 : decode cX5_isDesk 5 = .ok (.bipush 6, 2) := by decide +kernel
theorem dX5_isDesk_7 : decode cX5_isDesk 7 = .ok (.if_icmp .ge 7, 3) := by decide +kernel
theorem dX5_isDesk_10 : decode cX5_isDesk 10 = .ok (.iconst 1, 1) := by decide +kernel
theorem dX5_isDesk_11 : decode cX5_isDesk 11 = .ok (.goto 4, 3) := by decide +kernel
theorem dX5_isDesk_14 : decode cX5_isDesk 14 = .ok (.iconst 0, 1) := by decide +kernel
theorem dX5_isDesk_15 : decode cX5_isDesk 15 = .ok (.ireturn, 1) := by decide +kernel
theorem dX5_isScribe_0 : decode cX5_isScribe 0 = .ok (.iload_n 0, 1) := by decide +kernel
theorem dX5_isScribe_1 : decode cX5_isScribe 1 = .ok (.ifCond .lt 12, 3) := by decide +kernel
theorem dX5_isScribe_4 : decode cX5_isScribe 4 = .ok (.iload_n 0, 1) := by decide +kernel
theorem dX5_isScribe_5 : decode cX5_isScribe 5 = .ok (.iconst 3, 1) := by decide +kernel
theorem dX5_isScribe_6 : decode cX5_isScribe 6 = .ok (.if_icmp .ge 7, 3) := by decide +kernel
theorem dX5_isScribe_9 : decode cX5_isScribe 9 = .ok (.iconst 1, 1) := by decide +kernel
theorem dX5_isScribe_10 : decode cX5_isScribe 10 = .ok (.goto 4, 3) := by decide +kernel
theorem dX5_isScribe_13 : decode cX5_isScribe 13 = .ok (.iconst 0, 1) := by decide +kernel
theorem dX5_isScribe_14 : decode cX5_isScribe 14 = .ok (.ireturn, 1) := by decide +kernel
theorem dX5_isUsed_0 : decode cX5_isUsed 0 = .ok (.iconst 0, 1) := by decide +kernel
theorem dX5_isUsed_1 : decode cX5_isUsed 1 = .ok (.istore_n 3, 1) := by decide +kernel
theorem dX5_isUsed_2 : decode cX5_isUsed 2 = .ok (.iload_n 3, 1) := by decide +kernel
theorem dX5_isUsed_3 : decode cX5_isUsed 3 = .ok (.bipush 6, 2) := by decide +kernel
theorem dX5_isUsed_5 : decode cX5_isUsed 5 = .ok (.if_icmp .ge 26, 3) := by decide +kernel
theorem dX5_isUsed_8 : decode cX5_isUsed 8 = .ok (.iload_n 3, 1) := by decide +kernel
theorem dX5_isUsed_9 : decode cX5_isUsed 9 = .ok (.iload_n 2, 1) := by decide +kernel
theorem dX5_isUsed_10 : decode cX5_isUsed 10 = .ok (.if_icmp .eq 15, 3) := by decide +kernel
theorem dX5_isUsed_13 : decode cX5_isUsed 13 = .ok (.aload_n 0, 1) := by decide +kernel
theorem dX5_isUsed_14 : decode cX5_isUsed 14 = .ok (.getfield 7, 3) := by decide +kernel
theorem dX5_isUsed_17 : decode cX5_isUsed 17 = .ok (.iload_n 3, 1) := by decide +kernel
theorem dX5_isUsed_18 : decode cX5_isUsed 18 = .ok (.iaload, 1) := by decide +kernel
theorem dX5_isUsed_19 : decode cX5_isUsed 19 = .ok (.iload_n 1, 1) := by decide +kernel
theorem dX5_isUsed_20 : decode cX5_isUsed 20 = .ok (.if_icmp .ne 5, 3) := by decide +kernel
theorem dX5_isUsed_23 : decode cX5_isUsed 23 = .ok (.iconst 1, 1) := by decide +kernel
theorem dX5_isUsed_24 : decode cX5_isUsed 24 = .ok (.ireturn, 1) := by decide +kernel
theorem dX5_isUsed_25 : decode cX5_isUsed 25 = .ok (.iinc 3 1, 3) := by decide +kernel
theorem dX5_isUsed_28 : decode cX5_isUsed 28 = .ok (.goto (-26), 3) := by decide +kernel
theorem dX5_isUsed_31 : decode cX5_isUsed 31 = .ok (.iconst 0, 1) := by decide +kernel
theorem dX5_isUsed_32 : decode cX5_isUsed 32 = .ok (.ireturn, 1) := by decide +kernel
set_option maxRecDepth 20000 in
theorem ggX5_bind_X5_isDesk : GoodIn wsX5_bind wsX5_isDesk := goodIn_r _ [10] (by decide +kernel) (by decide +kernel)
set_option maxRecDepth 20000 in
theorem gX5_bind_X5_isDesk : GoodIn wsX5_bind (va_wsS RX5 45 yX5_isDesk wsX5_isDesk) := goodIn_app (goodIn_of _ (by decide +kernel)) ggX5_bind_X5_isDesk
set_option maxRecDepth 20000 in
theorem ggX5_bind_X5_isUsed : GoodIn wsX5_bind wsX5_isUsed := goodIn_r _ [14, 2, 15, 16, 17, 18, 19, 20, 21, 22, 23, 24, 25] (by decide +kernel) (by decide +kernel)
set_option maxRecDepth 20000 in
theorem gX5_bind_X5_isUsed : GoodIn wsX5_bind (wsV RX5 49 RX5 yX5_isUsed wsX5_isUsed) := goodIn_app (goodIn_of _ (by decide +kernel)) ggX5_bind_X5_isUsed
theorem dX5_bind_0 : decode cX5_bind 0 = .ok (.aload_n 0, 1) := by decide +kernel
theorem dX5_bind_1 : decode cX5_bind 1 = .ok (.iconst 0, 1) := by decide +kernel
theorem dX5_bind_2 : decode cX5_bind 2 = .ok (.putfield 41, 3) := by decide +kernel
theorem dX5_bind_5 : decode cX5_bind 5 = .ok (.iload_n 1, 1) := by decide +kernel
theorem dX5_bind_6 : decode cX5_bind 6 = .ok (.invokestatic 45, 3) := by decide +kernel
theorem dX5_bind_9 : decode cX5_bind 9 = .ok (.ifCond .eq 23, 3) := by decide +kernel
theorem dX5_bind_12 : decode cX5_bind 12 = .ok (.iload_n 2, 1) := by decide +kernel
theorem dX5_bind_13 : decode cX5_bind 13 = .ok (.ifCond .lt 19, 3) := by decide +kernel
theorem dX5_bind_16 : decode cX5_bind 16 = .ok (.iload_n 2, 1) := by decide +kernel
theorem dX5_bind_17 : decode cX5_bind 17 = .ok (.bipush 8, 2) := by decide +kernel
theorem dX5_bind_19 : decode cX5_bind 19 = .ok (.if_icmp .gt 13, 3) := by decide +kernel
theorem dX5_bind_22 : decode cX5_bind 22 = .ok (.iload_n 3, 1) := by decide +kernel
theorem dX5_bind_23 : decode cX5_bind 23 = .ok (.ifCond .lt 9, 3) := by decide +kernel
theorem dX5_bind_26 : decode cX5_bind 26 = .ok (.iload_n 3, 1) := by decide +kernel
theorem dX5_bind_27 : decode cX5_bind 27 = .ok (.bipush 40, 2) := by decide +kernel
theorem dX5_bind_29 : decode cX5_bind 29 = .ok (.if_icmp .le 6, 3) := by decide +kernel
theorem dX5_bind_32 : decode cX5_bind 32 = .ok (.bipush (-99), 2) := by decide +kernel
theorem dX5_bind_34 : decode cX5_bind 34 = .ok (.ireturn, 1) := by decide +kernel
theorem dX5_bind_35 : decode cX5_bind 35 = .ok (.iconst 0, 1) := by decide +kernel
theorem dX5_bind_36 : decode cX5_bind 36 = .ok (.istore 4, 2) := by decide +kernel
theorem dX5_bind_38 : decode cX5_bind 38 = .ok (.aload_n 0, 1) := by decide +kernel
theorem dX5_bind_39 : decode cX5_bind 39 = .ok (.iload 4, 2) := by decide +kernel
theorem dX5_bind_41 : decode cX5_bind 41 = .ok (.iload_n 1, 1) := by decide +kernel
theorem dX5_bind_42 : decode cX5_bind 42 = .ok (.invokevirtual 49, 3) := by decide +kernel
theorem dX5_bind_45 : decode cX5_bind 45 = .ok (.ifCond .eq 9, 3) := by decide +kernel
theorem dX5_bind_48 : decode cX5_bind 48 = .ok (.iinc 4 1, 3) := by decide +kernel
theorem dX5_bind_51 : decode cX5_bind 51 = .ok (.goto (-13), 3) := by decide +kernel
theorem dX5_bind_54 : decode cX5_bind 54 = .ok (.aload_n 0, 1) := by decide +kernel
theorem dX5_bind_55 : decode cX5_bind 55 = .ok (.getfield 7, 3) := by decide +kernel
theorem dX5_bind_58 : decode cX5_bind 58 = .ok (.iload_n 1, 1) := by decide +kernel
theorem dX5_bind_59 : decode cX5_bind 59 = .ok (.iload 4, 2) := by decide +kernel
theorem dX5_bind_61 : decode cX5_bind 61 = .ok (.iastore, 1) := by decide +kernel
theorem dX5_bind_62 : decode cX5_bind 62 = .ok (.aload_n 0, 1) := by decide +kernel
theorem dX5_bind_63 : decode cX5_bind 63 = .ok (.getfield 13, 3) := by decide +kernel
theorem dX5_bind_66 : decode cX5_bind 66 = .ok (.iload 4, 2) := by decide +kernel
theorem dX5_bind_68 : decode cX5_bind 68 = .ok (.iload_n 2, 1) := by decide +kernel
theorem dX5_bind_69 : decode cX5_bind 69 = .ok (.iastore, 1) := by decide +kernel
theorem dX5_bind_70 : decode cX5_bind 70 = .ok (.aload_n 0, 1) := by decide +kernel
theorem dX5_bind_71 : decode cX5_bind 71 = .ok (.getfield 16, 3) := by decide +kernel
theorem dX5_bind_74 : decode cX5_bind 74 = .ok (.iload 4, 2) := by decide +kernel
theorem dX5_bind_76 : decode cX5_bind 76 = .ok (.iload_n 3, 1) := by decide +kernel
theorem dX5_bind_77 : decode cX5_bind 77 = .ok (.iastore, 1) := by decide +kernel
theorem dX5_bind_78 : decode cX5_bind 78 = .ok (.iconst 0, 1) := by decide +kernel
theorem dX5_bind_79 : decode cX5_bind 79 = .ok (.istore 5, 2) := by decide +kernel
theorem dX5_bind_81 : decode cX5_bind 81 = .ok (.iload 5, 2) := by decide +kernel
theorem dX5_bind_83 : decode cX5_bind 83 = .ok (.bipush 40, 2) := by decide +kernel
theorem dX5_bind_85 : decode cX5_bind 85 = .ok (.if_icmp .ge 23, 3) := by decide +kernel
theorem dX5_bind_88 : decode cX5_bind 88 = .ok (.aload_n 0, 1) := by decide +kernel
theorem dX5_bind_89 : decode cX5_bind 89 = .ok (.getfield 19, 3) := by decide +kernel
theorem dX5_bind_92 : decode cX5_bind 92 = .ok (.bipush 40, 2) := by decide +kernel
theorem dX5_bind_94 : decode cX5_bind 94 = .ok (.iload 4, 2) := by decide +kernel
theorem dX5_bind_96 : decode cX5_bind 96 = .ok (.imul, 1) := by decide +kernel
theorem dX5_bind_97 : decode cX5_bind 97 = .ok (.iload 5, 2) := by decide +kernel
theorem dX5_bind_99 : decode cX5_bind 99 = .ok (.iadd, 1) := by decide +kernel
theorem dX5_bind_100 : decode cX5_bind 100 = .ok (.lconst 0, 1) := by decide +kernel
theorem dX5_bind_101 : decode cX5_bind 101 = .ok (.lastore, 1) := by decide +kernel
theorem dX5_bind_102 : decode cX5_bind 102 = .ok (.iinc 5 1, 3) := by decide +kernel
theorem dX5_bind_105 : decode cX5_bind 105 = .ok (.goto (-24), 3) := by decide +kernel
theorem dX5_bind_108 : decode cX5_bind 108 = .ok (.aload_n 0, 1) := by decide +kernel
theorem dX5_bind_109 : decode cX5_bind 109 = .ok (.getfield 38, 3) := by decide +kernel
theorem dX5_bind_112 : decode cX5_bind 112 = .ok (.bipush 7, 2) := by decide +kernel
theorem dX5_bind_114 : decode cX5_bind 114 = .ok (.dup2, 1) := by decide +kernel
theorem dX5_bind_115 : decode cX5_bind 115 = .ok (.iaload, 1) := by decide +kernel
theorem dX5_bind_116 : decode cX5_bind 116 = .ok (.iconst 1, 1) := by decide +kernel
theorem dX5_bind_117 : decode cX5_bind 117 = .ok (.iadd, 1) := by decide +kernel
theorem dX5_bind_118 : decode cX5_bind 118 = .ok (.iastore, 1) := by decide +kernel
theorem dX5_bind_119 : decode cX5_bind 119 = .ok (.iconst 0, 1) := by decide +kernel
theorem dX5_bind_120 : decode cX5_bind 120 = .ok (.ireturn, 1) := by decide +kernel
set_option maxRecDepth 20000 in
theorem ggX5_stone_X5_isDesk : GoodIn wsX5_stone wsX5_isDesk := goodIn_r _ [6] (by decide +kernel) (by decide +kernel)
set_option maxRecDepth 20000 in
theorem gX5_stone_X5_isDesk : GoodIn wsX5_stone (va_wsS RX5 45 yX5_isDesk wsX5_isDesk) := goodIn_app (goodIn_of _ (by decide +kernel)) ggX5_stone_X5_isDesk
theorem dX5_stone_0 : decode cX5_stone 0 = .ok (.aload_n 0, 1) := by decide +kernel
theorem dX5_stone_1 : decode cX5_stone 1 = .ok (.iconst 0, 1) := by decide +kernel
theorem dX5_stone_2 : decode cX5_stone 2 = .ok (.putfield 41, 3) := by decide +kernel
theorem dX5_stone_5 : decode cX5_stone 5 = .ok (.iload_n 1, 1) := by decide +kernel
theorem dX5_stone_6 : decode cX5_stone 6 = .ok (.invokestatic 45, 3) := by decide +kernel
theorem dX5_stone_9 : decode cX5_stone 9 = .ok (.ifCond .ne 6, 3) := by decide +kernel
theorem dX5_stone_12 : decode cX5_stone 12 = .ok (.bipush (-99), 2) := by decide +kernel
theorem dX5_stone_14 : decode cX5_stone 14 = .ok (.ireturn, 1) := by decide +kernel
theorem dX5_stone_15 : decode cX5_stone 15 = .ok (.aload_n 0, 1) := by decide +kernel
theorem dX5_stone_16 : decode cX5_stone 16 = .ok (.getfield 7, 3) := by decide +kernel
theorem dX5_stone_19 : decode cX5_stone 19 = .ok (.iload_n 1, 1) := by decide +kernel
theorem dX5_stone_20 : decode cX5_stone 20 = .ok (.bipush (-2), 2) := by decide +kernel
theorem dX5_stone_22 : decode cX5_stone 22 = .ok (.iastore, 1) := by decide +kernel
theorem dX5_stone_23 : decode cX5_stone 23 = .ok (.iconst 0, 1) := by decide +kernel
theorem dX5_stone_24 : decode cX5_stone 24 = .ok (.ireturn, 1) := by decide +kernel
set_option maxRecDepth 20000 in
theorem ggX5_share_X5_isDesk : GoodIn wsX5_share wsX5_isDesk := goodIn_r _ [6] (by decide +kernel) (by decide +kernel)
set_option maxRecDepth 20000 in
theorem gX5_share_X5_isDesk : GoodIn wsX5_share (va_wsS RX5 45 yX5_isDesk wsX5_isDesk) := goodIn_app (goodIn_of _ (by decide +kernel)) ggX5_share_X5_isDesk
theorem dX5_share_0 : decode cX5_share 0 = .ok (.aload_n 0, 1) := by decide +kernel
theorem dX5_share_1 : decode cX5_share 1 = .ok (.iconst 0, 1) := by decide +kernel
theorem dX5_share_2 : decode cX5_share 2 = .ok (.putfield 41, 3) := by decide +kernel
theorem dX5_share_5 : decode cX5_share 5 = .ok (.iload_n 1, 1) := by decide +kernel
theorem dX5_share_6 : decode cX5_share 6 = .ok (.invokestatic 45, 3) := by decide +kernel
theorem dX5_share_9 : decode cX5_share 9 = .ok (.ifCond .eq 10, 3) := by decide +kernel
theorem dX5_share_12 : decode cX5_share 12 = .ok (.iload_n 2, 1) := by decide +kernel
theorem dX5_share_13 : decode cX5_share 13 = .ok (.invokestatic 45, 3) := by decide +kernel
theorem dX5_share_16 : decode cX5_share 16 = .ok (.ifCond .ne 6, 3) := by decide +kernel
theorem dX5_share_19 : decode cX5_share 19 = .ok (.bipush (-99), 2) := by decide +kernel
theorem dX5_share_21 : decode cX5_share 21 = .ok (.ireturn, 1) := by decide +kernel
theorem dX5_share_22 : decode cX5_share 22 = .ok (.aload_n 0, 1) := by decide +kernel
theorem dX5_share_23 : decode cX5_share 23 = .ok (.getfield 7, 3) := by decide +kernel
theorem dX5_share_26 : decode cX5_share 26 = .ok (.iload_n 2, 1) := by decide +kernel
theorem dX5_share_27 : decode cX5_share 27 = .ok (.aload_n 0, 1) := by decide +kernel
theorem dX5_share_28 : decode cX5_share 28 = .ok (.getfield 7, 3) := by decide +kernel
theorem dX5_share_31 : decode cX5_share 31 = .ok (.iload_n 1, 1) := by decide +kernel
theorem dX5_share_32 : decode cX5_share 32 = .ok (.iaload, 1) := by decide +kernel
theorem dX5_share_33 : decode cX5_share 33 = .ok (.iastore, 1) := by decide +kernel
theorem dX5_share_34 : decode cX5_share 34 = .ok (.iconst 0, 1) := by decide +kernel
theorem dX5_share_35 : decode cX5_share 35 = .ok (.ireturn, 1) := by decide +kernel
set_option maxRecDepth 20000 in
theorem ggX5_clear_X5_isDesk : GoodIn wsX5_clear wsX5_isDesk := goodIn_r _ [6] (by decide +kernel) (by decide +kernel)
set_option maxRecDepth 20000 in
theorem gX5_clear_X5_isDesk : GoodIn wsX5_clear (va_wsS RX5 45 yX5_isDesk wsX5_isDesk) := goodIn_app (goodIn_of _ (by decide +kernel)) ggX5_clear_X5_isDesk
theorem dX5_clear_0 : decode cX5_clear 0 = .ok (.aload_n 0, 1) := by decide +kernel
theorem dX5_clear_1 : decode cX5_clear 1 = .ok (.iconst 0, 1) := by decide +kernel
theorem dX5_clear_2 : decode cX5_clear 2 = .ok (.putfield 41, 3) := by decide +kernel
theorem dX5_clear_5 : decode cX5_clear 5 = .ok (.iload_n 1, 1) := by decide +kernel
theorem dX5_clear_6 : decode cX5_clear 6 = .ok (.invokestatic 45, 3) := by decide +kernel
theorem dX5_clear_9 : decode cX5_clear 9 = .ok (.ifCond .ne 6, 3) := by decide +kernel
theorem dX5_clear_12 : decode cX5_clear 12 = .ok (.bipush (-99), 2) := by decide +kernel
theorem dX5_clear_14 : decode cX5_clear 14 = .ok (.ireturn, 1) := by decide +kernel
theorem dX5_clear_15 : decode cX5_clear 15 = .ok (.aload_n 0, 1) := by decide +kernel
theorem dX5_clear_16 : decode cX5_clear 16 = .ok (.getfield 7, 3) := by decide +kernel
theorem dX5_clear_19 : decode cX5_clear 19 = .ok (.iload_n 1, 1) := by decide +kernel
theorem dX5_clear_20 : decode cX5_clear 20 = .ok (.iconst (-1), 1) := by decide +kernel
theorem dX5_clear_21 : decode cX5_clear 21 = .ok (.iastore, 1) := by decide +kernel
theorem dX5_clear_22 : decode cX5_clear 22 = .ok (.iconst 0, 1) := by decide +kernel
theorem dX5_clear_23 : decode cX5_clear 23 = .ok (.ireturn, 1) := by decide +kernel
theorem dX5_isPictures_0 : decode cX5_isPictures 0 = .ok (.aload_n 0, 1) := by decide +kernel
theorem dX5_isPictures_1 : decode cX5_isPictures 1 = .ok (.getfield 13, 3) := by decide +kernel
theorem dX5_isPictures_4 : decode cX5_isPictures 4 = .ok (.iload_n 1, 1) := by decide +kernel
theorem dX5_isPictures_5 : decode cX5_isPictures 5 = .ok (.iaload, 1) := by decide +kernel
theorem dX5_isPictures_6 : decode cX5_isPictures 6 = .ok (.iconst 5, 1) := by decide +kernel
theorem dX5_isPictures_7 : decode cX5_isPictures 7 = .ok (.if_icmp .le 7, 3) := by decide +kernel
theorem dX5_isPictures_10 : decode cX5_isPictures 10 = .ok (.iconst 1, 1) := by decide +kernel
theorem dX5_isPictures_11 : decode cX5_isPictures 11 = .ok (.goto 4, 3) := by decide +kernel
theorem dX5_isPictures_14 : decode cX5_isPictures 14 = .ok (.iconst 0, 1) := by decide +kernel
theorem dX5_isPictures_15 : decode cX5_isPictures 15 = .ok (.ireturn, 1) := by decide +kernel
theorem dX5_may_0 : decode cX5_may 0 = .ok (.lload_n 2, 1) := by decide +kernel
theorem dX5_may_1 : decode cX5_may 1 = .ok (.ldc2_w 53, 3) := by decide +kernel
theorem dX5_may_4 : decode cX5_may 4 = .ok (.land, 1) := by decide +kernel
theorem dX5_may_5 : decode cX5_may 5 = .ok (.l2i, 1) := by decide +kernel
theorem dX5_may_6 : decode cX5_may 6 = .ok (.istore 4, 2) := by decide +kernel
theorem dX5_may_8 : decode cX5_may 8 = .ok (.aload_n 0, 1) := by decide +kernel
theorem dX5_may_9 : decode cX5_may 9 = .ok (.getfield 13, 3) := by decide +kernel
theorem dX5_may_12 : decode cX5_may 12 = .ok (.iload_n 1, 1) := by decide +kernel
theorem dX5_may_13 : decode cX5_may 13 = .ok (.iaload, 1) := by decide +kernel
theorem dX5_may_14 : decode cX5_may 14 = .ok (.bipush 7, 2) := by decide +kernel
theorem dX5_may_16 : decode cX5_may 16 = .ok (.if_icmp .lt 22, 3) := by decide +kernel
theorem dX5_may_19 : decode cX5_may 19 = .ok (.iload 4, 2) := by decide +kernel
theorem dX5_may_21 : decode cX5_may 21 = .ok (.ifCond .eq 17, 3) := by decide +kernel
theorem dX5_may_24 : decode cX5_may 24 = .ok (.iload 4, 2) := by decide +kernel
theorem dX5_may_26 : decode cX5_may 26 = .ok (.aload_n 0, 1) := by decide +kernel
theorem dX5_may_27 : decode cX5_may 27 = .ok (.getfield 13, 3) := by decide +kernel
theorem dX5_may_30 : decode cX5_may 30 = .ok (.iload_n 1, 1) := by decide +kernel
theorem dX5_may_31 : decode cX5_may 31 = .ok (.iaload, 1) := by decide +kernel
theorem dX5_may_32 : decode cX5_may 32 = .ok (.bipush 6, 2) := by decide +kernel
theorem dX5_may_34 : decode cX5_may 34 = .ok (.isub, 1) := by decide +kernel
theorem dX5_may_35 : decode cX5_may 35 = .ok (.if_icmp .ne 7, 3) := by decide +kernel
theorem dX5_may_38 : decode cX5_may 38 = .ok (.iconst 1, 1) := by decide +kernel
theorem dX5_may_39 : decode cX5_may 39 = .ok (.goto 4, 3) := by decide +kernel
theorem dX5_may_42 : decode cX5_may 42 = .ok (.iconst 0, 1) := by decide +kernel
theorem dX5_may_43 : decode cX5_may 43 = .ok (.ireturn, 1) := by decide +kernel
theorem dX5_cut_0 : decode cX5_cut 0 = .ok (.iload_n 0, 1) := by decide +kernel
theorem dX5_cut_1 : decode cX5_cut 1 = .ok (.tableswitch 67 0 4 #[35, 43, 49, 57, 65], 35) := by decide +kernel
theorem dX5_cut_36 : decode cX5_cut 36 = .ok (.lload_n 1, 1) := by decide +kernel
theorem dX5_cut_37 : decode cX5_cut 37 = .ok (.bipush 56, 2) := by decide +kernel
theorem dX5_cut_39 : decode cX5_cut 39 = .ok (.lshl, 1) := by decide +kernel
theorem dX5_cut_40 : decode cX5_cut 40 = .ok (.bipush 56, 2) := by decide +kernel
theorem dX5_cut_42 : decode cX5_cut 42 = .ok (.lshr, 1) := by decide +kernel
theorem dX5_cut_43 : decode cX5_cut 43 = .ok (.lreturn, 1) := by decide +kernel
theorem dX5_cut_44 : decode cX5_cut 44 = .ok (.lload_n 1, 1) := by decide +kernel
theorem dX5_cut_45 : decode cX5_cut 45 = .ok (.ldc2_w 55, 3) := by decide +kernel
theorem dX5_cut_48 : decode cX5_cut 48 = .ok (.land, 1) := by decide +kernel
theorem dX5_cut_49 : decode cX5_cut 49 = .ok (.lreturn, 1) := by decide +kernel
theorem dX5_cut_50 : decode cX5_cut 50 = .ok (.lload_n 1, 1) := by decide +kernel
theorem dX5_cut_51 : decode cX5_cut 51 = .ok (.bipush 48, 2) := by decide +kernel
theorem dX5_cut_53 : decode cX5_cut 53 = .ok (.lshl, 1) := by decide +kernel
theorem dX5_cut_54 : decode cX5_cut 54 = .ok (.bipush 48, 2) := by decide +kernel
theorem dX5_cut_56 : decode cX5_cut 56 = .ok (.lshr, 1) := by decide +kernel
theorem dX5_cut_57 : decode cX5_cut 57 = .ok (.lreturn, 1) := by decide +kernel
theorem dX5_cut_58 : decode cX5_cut 58 = .ok (.lload_n 1, 1) := by decide +kernel
theorem dX5_cut_59 : decode cX5_cut 59 = .ok (.bipush 32, 2) := by decide +kernel
theorem dX5_cut_61 : decode cX5_cut 61 = .ok (.lshl, 1) := by decide +kernel
theorem dX5_cut_62 : decode cX5_cut 62 = .ok (.bipush 32, 2) := by decide +kernel
theorem dX5_cut_64 : decode cX5_cut 64 = .ok (.lshr, 1) := by decide +kernel
theorem dX5_cut_65 : decode cX5_cut 65 = .ok (.lreturn, 1) := by decide +kernel
theorem dX5_cut_66 : decode cX5_cut 66 = .ok (.lload_n 1, 1) := by decide +kernel
theorem dX5_cut_67 : decode cX5_cut 67 = .ok (.lreturn, 1) := by decide +kernel
theorem dX5_cut_68 : decode cX5_cut 68 = .ok (.lload_n 1, 1) := by decide +kernel
theorem dX5_cut_69 : decode cX5_cut 69 = .ok (.lconst 1, 1) := by decide +kernel
theorem dX5_cut_70 : decode cX5_cut 70 = .ok (.land, 1) := by decide +kernel
theorem dX5_cut_71 : decode cX5_cut 71 = .ok (.lreturn, 1) := by decide +kernel
set_option maxRecDepth 20000 in
theorem ggX5_write_X5_isDesk : GoodIn wsX5_write wsX5_isDesk := goodIn_r _ [10] (by decide +kernel) (by decide +kernel)
set_option maxRecDepth 20000 in
theorem gX5_write_X5_isDesk : GoodIn wsX5_write (va_wsS RX5 45 yX5_isDesk wsX5_isDesk) := goodIn_app (goodIn_of _ (by decide +kernel)) ggX5_write_X5_isDesk
set_option maxRecDepth 20000 in
theorem ggX5_write_X5_isPictures : GoodIn wsX5_write wsX5_isPictures := goodIn_r _ [14, 4, 24, 25, 26, 27, 28, 29, 30, 31, 32, 33, 34] (by decide +kernel) (by decide +kernel)
set_option maxRecDepth 20000 in
theorem gX5_write_X5_isPictures : GoodIn wsX5_write (wsV RX5 57 RX5 yX5_isPictures wsX5_isPictures) := goodIn_app (goodIn_of _ (by decide +kernel)) ggX5_write_X5_isPictures
set_option maxRecDepth 20000 in
theorem ggX5_write_X5_cut : GoodIn wsX5_write wsX5_cut := goodIn_r _ [17, 18] (by decide +kernel) (by decide +kernel)
set_option maxRecDepth 20000 in
theorem gX5_write_X5_cut : GoodIn wsX5_write (va_wsS RX5 60 yX5_cut wsX5_cut) := goodIn_app (goodIn_of _ (by decide +kernel)) ggX5_write_X5_cut
set_option maxRecDepth 20000 in
theorem ggX5_write_X5_may : GoodIn wsX5_write wsX5_may := goodIn_r _ [22, 23, 4, 24, 25, 26, 27, 28, 29, 30, 31, 32, 33, 34] (by decide +kernel) (by decide +kernel)
set_option maxRecDepth 20000 in
theorem gX5_write_X5_may : GoodIn wsX5_write (wsV RX5 66 RX5 yX5_may wsX5_may) := goodIn_app (goodIn_of _ (by decide +kernel)) ggX5_write_X5_may
theorem dX5_write_0 : decode cX5_write 0 = .ok (.aload_n 0, 1) := by decide +kernel
theorem dX5_write_1 : decode cX5_write 1 = .ok (.iconst 0, 1) := by decide +kernel
theorem dX5_write_2 : decode cX5_write 2 = .ok (.putfield 41, 3) := by decide +kernel
theorem dX5_write_5 : decode cX5_write 5 = .ok (.iload_n 1, 1) := by decide +kernel
theorem dX5_write_6 : decode cX5_write 6 = .ok (.invokestatic 45, 3) := by decide +kernel
theorem dX5_write_9 : decode cX5_write 9 = .ok (.ifCond .ne 6, 3) := by decide +kernel
theorem dX5_write_12 : decode cX5_write 12 = .ok (.bipush (-99), 2) := by decide +kernel
theorem dX5_write_14 : decode cX5_write 14 = .ok (.ireturn, 1) := by decide +kernel
theorem dX5_write_15 : decode cX5_write 15 = .ok (.aload_n 0, 1) := by decide +kernel
theorem dX5_write_16 : decode cX5_write 16 = .ok (.getfield 7, 3) := by decide +kernel
theorem dX5_write_19 : decode cX5_write 19 = .ok (.iload_n 1, 1) := by decide +kernel
theorem dX5_write_20 : decode cX5_write 20 = .ok (.iaload, 1) := by decide +kernel
theorem dX5_write_21 : decode cX5_write 21 = .ok (.istore 6, 2) := by decide +kernel
theorem dX5_write_23 : decode cX5_write 23 = .ok (.iload 6, 2) := by decide +kernel
theorem dX5_write_25 : decode cX5_write 25 = .ok (.ifCond .lt 24, 3) := by decide +kernel
theorem dX5_write_28 : decode cX5_write 28 = .ok (.aload_n 0, 1) := by decide +kernel
theorem dX5_write_29 : decode cX5_write 29 = .ok (.iload 6, 2) := by decide +kernel
theorem dX5_write_31 : decode cX5_write 31 = .ok (.invokevirtual 57, 3) := by decide +kernel
theorem dX5_write_34 : decode cX5_write 34 = .ok (.ifCond .eq 15, 3) := by decide +kernel
theorem dX5_write_37 : decode cX5_write 37 = .ok (.iload_n 3, 1) := by decide +kernel
theorem dX5_write_38 : decode cX5_write 38 = .ok (.ifCond .lt 8, 3) := by decide +kernel
theorem dX5_write_41 : decode cX5_write 41 = .ok (.iload_n 3, 1) := by decide +kernel
theorem dX5_write_42 : decode cX5_write 42 = .ok (.iconst 2, 1) := by decide +kernel
theorem dX5_write_43 : decode cX5_write 43 = .ok (.if_icmp .le 6, 3) := by decide +kernel
theorem dX5_write_46 : decode cX5_write 46 = .ok (.bipush (-99), 2) := by decide +kernel
theorem dX5_write_48 : decode cX5_write 48 = .ok (.ireturn, 1) := by decide +kernel
theorem dX5_write_49 : decode cX5_write 49 = .ok (.iload 6, 2) := by decide +kernel
theorem dX5_write_51 : decode cX5_write 51 = .ok (.ifCond .ge 6, 3) := by decide +kernel
theorem dX5_write_54 : decode cX5_write 54 = .ok (.iload 6, 2) := by decide +kernel
theorem dX5_write_56 : decode cX5_write 56 = .ok (.ireturn, 1) := by decide +kernel
theorem dX5_write_57 : decode cX5_write 57 = .ok (.iload_n 2, 1) := by decide +kernel
theorem dX5_write_58 : decode cX5_write 58 = .ok (.ifCond .lt 14, 3) := by decide +kernel
theorem dX5_write_61 : decode cX5_write 61 = .ok (.iload_n 2, 1) := by decide +kernel
theorem dX5_write_62 : decode cX5_write 62 = .ok (.aload_n 0, 1) := by decide +kernel
theorem dX5_write_63 : decode cX5_write 63 = .ok (.getfield 16, 3) := by decide +kernel
theorem dX5_write_66 : decode cX5_write 66 = .ok (.iload 6, 2) := by decide +kernel
theorem dX5_write_68 : decode cX5_write 68 = .ok (.iaload, 1) := by decide +kernel
theorem dX5_write_69 : decode cX5_write 69 = .ok (.if_icmp .lt 6, 3) := by decide +kernel
theorem dX5_write_72 : decode cX5_write 72 = .ok (.bipush (-3), 2) := by decide +kernel
theorem dX5_write_74 : decode cX5_write 74 = .ok (.ireturn, 1) := by decide +kernel
theorem dX5_write_75 : decode cX5_write 75 = .ok (.aload_n 0, 1) := by decide +kernel
theorem dX5_write_76 : decode cX5_write 76 = .ok (.iload 6, 2) := by decide +kernel
theorem dX5_write_78 : decode cX5_write 78 = .ok (.invokevirtual 57, 3) := by decide +kernel
theorem dX5_write_81 : decode cX5_write 81 = .ok (.ifCond .ne 18, 3) := by decide +kernel
theorem dX5_write_84 : decode cX5_write 84 = .ok (.aload_n 0, 1) := by decide +kernel
theorem dX5_write_85 : decode cX5_write 85 = .ok (.getfield 13, 3) := by decide +kernel
theorem dX5_write_88 : decode cX5_write 88 = .ok (.iload 6, 2) := by decide +kernel
theorem dX5_write_90 : decode cX5_write 90 = .ok (.iaload, 1) := by decide +kernel
theorem dX5_write_91 : decode cX5_write 91 = .ok (.lload 4, 2) := by decide +kernel
theorem dX5_write_93 : decode cX5_write 93 = .ok (.invokestatic 60, 3) := by decide +kernel
theorem dX5_write_96 : decode cX5_write 96 = .ok (.goto 26, 3) := by decide +kernel
theorem dX5_write_99 : decode cX5_write 99 = .ok (.iload_n 3, 1) := by decide +kernel
theorem dX5_write_100 : decode cX5_write 100 = .ok (.ifCond .ne 7, 3) := by decide +kernel
theorem dX5_write_103 : decode cX5_write 103 = .ok (.lconst 0, 1) := by decide +kernel
theorem dX5_write_104 : decode cX5_write 104 = .ok (.goto 18, 3) := by decide +kernel
theorem dX5_write_107 : decode cX5_write 107 = .ok (.ldc2_w 64, 3) := by decide +kernel
theorem dX5_write_110 : decode cX5_write 110 = .ok (.lload 4, 2) := by decide +kernel
theorem dX5_write_112 : decode cX5_write 112 = .ok (.bipush 32, 2) := by decide +kernel
theorem dX5_write_114 : decode cX5_write 114 = .ok (.lshl, 1) := by decide +kernel
theorem dX5_write_115 : decode cX5_write 115 = .ok (.bipush 32, 2) := by decide +kernel
theorem dX5_write_117 : decode cX5_write 117 = .ok (.lshr, 1) := by decide +kernel
theorem dX5_write_118 : decode cX5_write 118 = .ok (.lmul, 1) := by decide +kernel
theorem dX5_write_119 : decode cX5_write 119 = .ok (.iload_n 3, 1) := by decide +kernel
theorem dX5_write_120 : decode cX5_write 120 = .ok (.i2l, 1) := by decide +kernel
theorem dX5_write_121 : decode cX5_write 121 = .ok (.ladd, 1) := by decide +kernel
theorem dX5_write_122 : decode cX5_write 122 = .ok (.lstore 7, 2) := by decide +kernel
theorem dX5_write_124 : decode cX5_write 124 = .ok (.aload_n 0, 1) := by decide +kernel
theorem dX5_write_125 : decode cX5_write 125 = .ok (.iload 6, 2) := by decide +kernel
theorem dX5_write_127 : decode cX5_write 127 = .ok (.invokevirtual 57, 3) := by decide +kernel
theorem dX5_write_130 : decode cX5_write 130 = .ok (.ifCond .eq 17, 3) := by decide +kernel
theorem dX5_write_133 : decode cX5_write 133 = .ok (.aload_n 0, 1) := by decide +kernel
theorem dX5_write_134 : decode cX5_write 134 = .ok (.iload 6, 2) := by decide +kernel
theorem dX5_write_136 : decode cX5_write 136 = .ok (.lload 7, 2) := by decide +kernel
theorem dX5_write_138 : decode cX5_write 138 = .ok (.invokevirtual 66, 3) := by decide +kernel
theorem dX5_write_141 : decode cX5_write 141 = .ok (.ifCond .ne 6, 3) := by decide +kernel
theorem dX5_write_144 : decode cX5_write 144 = .ok (.bipush (-10), 2) := by decide +kernel
theorem dX5_write_146 : decode cX5_write 146 = .ok (.ireturn, 1) := by decide +kernel
theorem dX5_write_147 : decode cX5_write 147 = .ok (.aload_n 0, 1) := by decide +kernel
theorem dX5_write_148 : decode cX5_write 148 = .ok (.getfield 19, 3) := by decide +kernel
theorem dX5_write_151 : decode cX5_write 151 = .ok (.bipush 40, 2) := by decide +kernel
theorem dX5_write_153 : decode cX5_write 153 = .ok (.iload 6, 2) := by decide +kernel
theorem dX5_write_155 : decode cX5_write 155 = .ok (.imul, 1) := by decide +kernel
theorem dX5_write_156 : decode cX5_write 156 = .ok (.iload_n 2, 1) := by decide +kernel
theorem dX5_write_157 : decode cX5_write 157 = .ok (.iadd, 1) := by decide +kernel
theorem dX5_write_158 : decode cX5_write 158 = .ok (.lload 7, 2) := by decide +kernel
theorem dX5_write_160 : decode cX5_write 160 = .ok (.lastore, 1) := by decide +kernel
theorem dX5_write_161 : decode cX5_write 161 = .ok (.iconst 0, 1) := by decide +kernel
theorem dX5_write_162 : decode cX5_write 162 = .ok (.ireturn, 1) := by decide +kernel
theorem dX5_unlike_0 : decode cX5_unlike 0 = .ok (.aload_n 0, 1) := by decide +kernel
theorem dX5_unlike_1 : decode cX5_unlike 1 = .ok (.getfield 7, 3) := by decide +kernel
theorem dX5_unlike_4 : decode cX5_unlike 4 = .ok (.iload_n 1, 1) := by decide +kernel
theorem dX5_unlike_5 : decode cX5_unlike 5 = .ok (.iaload, 1) := by decide +kernel
theorem dX5_unlike_6 : decode cX5_unlike 6 = .ok (.iconst (-1), 1) := by decide +kernel
theorem dX5_unlike_7 : decode cX5_unlike 7 = .ok (.if_icmp .eq 13, 3) := by decide +kernel
theorem dX5_unlike_10 : decode cX5_unlike 10 = .ok (.aload_n 0, 1) := by decide +kernel
theorem dX5_unlike_11 : decode cX5_unlike 11 = .ok (.getfield 7, 3) := by decide +kernel
theorem dX5_unlike_14 : decode cX5_unlike 14 = .ok (.iload_n 2, 1) := by decide +kernel
theorem dX5_unlike_15 : decode cX5_unlike 15 = .ok (.iaload, 1) := by decide +kernel
theorem dX5_unlike_16 : decode cX5_unlike 16 = .ok (.iconst (-1), 1) := by decide +kernel
theorem dX5_unlike_17 : decode cX5_unlike 17 = .ok (.if_icmp .ne 5, 3) := by decide +kernel
theorem dX5_unlike_20 : decode cX5_unlike 20 = .ok (.iconst (-1), 1) := by decide +kernel
theorem dX5_unlike_21 : decode cX5_unlike 21 = .ok (.ireturn, 1) := by decide +kernel
theorem dX5_unlike_22 : decode cX5_unlike 22 = .ok (.aload_n 0, 1) := by decide +kernel
theorem dX5_unlike_23 : decode cX5_unlike 23 = .ok (.getfield 7, 3) := by decide +kernel
theorem dX5_unlike_26 : decode cX5_unlike 26 = .ok (.iload_n 1, 1) := by decide +kernel
theorem dX5_unlike_27 : decode cX5_unlike 27 = .ok (.iaload, 1) := by decide +kernel
theorem dX5_unlike_28 : decode cX5_unlike 28 = .ok (.bipush (-2), 2) := by decide +kernel
theorem dX5_unlike_30 : decode cX5_unlike 30 = .ok (.if_icmp .eq 14, 3) := by decide +kernel
theorem dX5_unlike_33 : decode cX5_unlike 33 = .ok (.aload_n 0, 1) := by decide +kernel
theorem dX5_unlike_34 : decode cX5_unlike 34 = .ok (.getfield 7, 3) := by decide +kernel
theorem dX5_unlike_37 : decode cX5_unlike 37 = .ok (.iload_n 2, 1) := by decide +kernel
theorem dX5_unlike_38 : decode cX5_unlike 38 = .ok (.iaload, 1) := by decide +kernel
theorem dX5_unlike_39 : decode cX5_unlike 39 = .ok (.bipush (-2), 2) := by decide +kernel
theorem dX5_unlike_41 : decode cX5_unlike 41 = .ok (.if_icmp .ne 6, 3) := by decide +kernel
theorem dX5_unlike_44 : decode cX5_unlike 44 = .ok (.bipush (-2), 2) := by decide +kernel
theorem dX5_unlike_46 : decode cX5_unlike 46 = .ok (.ireturn, 1) := by decide +kernel
theorem dX5_unlike_47 : decode cX5_unlike 47 = .ok (.aload_n 0, 1) := by decide +kernel
theorem dX5_unlike_48 : decode cX5_unlike 48 = .ok (.getfield 13, 3) := by decide +kernel
theorem dX5_unlike_51 : decode cX5_unlike 51 = .ok (.aload_n 0, 1) := by decide +kernel
theorem dX5_unlike_52 : decode cX5_unlike 52 = .ok (.getfield 7, 3) := by decide +kernel
theorem dX5_unlike_55 : decode cX5_unlike 55 = .ok (.iload_n 1, 1) := by decide +kernel
theorem dX5_unlike_56 : decode cX5_unlike 56 = .ok (.iaload, 1) := by decide +kernel
theorem dX5_unlike_57 : decode cX5_unlike 57 = .ok (.iaload, 1) := by decide +kernel
theorem dX5_unlike_58 : decode cX5_unlike 58 = .ok (.istore_n 3, 1) := by decide +kernel
theorem dX5_unlike_59 : decode cX5_unlike 59 = .ok (.aload_n 0, 1) := by decide +kernel
theorem dX5_unlike_60 : decode cX5_unlike 60 = .ok (.getfield 13, 3) := by decide +kernel
theorem dX5_unlike_63 : decode cX5_unlike 63 = .ok (.aload_n 0, 1) := by decide +kernel
theorem dX5_unlike_64 : decode cX5_unlike 64 = .ok (.getfield 7, 3) := by decide +kernel
theorem dX5_unlike_67 : decode cX5_unlike 67 = .ok (.iload_n 2, 1) := by decide +kernel
theorem dX5_unlike_68 : decode cX5_unlike 68 = .ok (.iaload, 1) := by decide +kernel
end
section
theorem dX5_unlike_69 : decode cX5_unlike 69 = .ok (.iaload, 1) := by decide +kernel
theorem dX5_unlike_70 : decode cX5_unlike 70 = .ok (.istore 4, 2) := by decide +kernel
theorem dX5_unlike_72 : decode cX5_unlike 72 = .ok (.iload_n 3, 1) := by decide +kernel
theorem dX5_unlike_73 : decode cX5_unlike 73 = .ok (.iload 4, 2) := by decide +kernel
theorem dX5_unlike_75 : decode cX5_unlike 75 = .ok (.if_icmp .eq 14, 3) := by decide +kernel
theorem dX5_unlike_78 : decode cX5_unlike 78 = .ok (.iload_n 3, 1) := by decide +kernel
theorem dX5_unlike_79 : decode cX5_unlike 79 = .ok (.iconst 5, 1) := by decide +kernel
theorem dX5_unlike_80 : decode cX5_unlike 80 = .ok (.if_icmp .le 13, 3) := by decide +kernel
theorem dX5_unlike_83 : decode cX5_unlike 83 = .ok (.iload 4, 2) := by decide +kernel
theorem dX5_unlike_85 : decode cX5_unlike 85 = .ok (.iconst 5, 1) := by decide +kernel
theorem dX5_unlike_86 : decode cX5_unlike 86 = .ok (.if_icmp .le 7, 3) := by decide +kernel
theorem dX5_unlike_89 : decode cX5_unlike 89 = .ok (.iconst 0, 1) := by decide +kernel
theorem dX5_unlike_90 : decode cX5_unlike 90 = .ok (.goto 5, 3) := by decide +kernel
theorem dX5_unlike_93 : decode cX5_unlike 93 = .ok (.bipush (-2), 2) := by decide +kernel
theorem dX5_unlike_95 : decode cX5_unlike 95 = .ok (.ireturn, 1) := by decide +kernel
set_option maxRecDepth 20000 in
theorem ggX5_passes_X5_unlike : GoodIn wsX5_passes wsX5_unlike := goodIn_r _ [8, 1, 9, 19, 20, 21, 22, 23, 24, 25, 26, 27, 28, 29] (by decide +kernel) (by decide +kernel)
set_option maxRecDepth 20000 in
theorem gX5_passes_X5_unlike : GoodIn wsX5_passes (wsV RX5 70 RX5 yX5_unlike wsX5_unlike) := goodIn_app (goodIn_of _ (by decide +kernel)) ggX5_passes_X5_unlike
set_option maxRecDepth 20000 in
theorem ggX5_passes_X5_isPictures : GoodIn wsX5_passes wsX5_isPictures := goodIn_r _ [13, 9, 19, 20, 21, 22, 23, 24, 25, 26, 27, 28, 29] (by decide +kernel) (by decide +kernel)
set_option maxRecDepth 20000 in
theorem gX5_passes_X5_isPictures : GoodIn wsX5_passes (wsV RX5 57 RX5 yX5_isPictures wsX5_isPictures) := goodIn_app (goodIn_of _ (by decide +kernel)) ggX5_passes_X5_isPictures
set_option maxRecDepth 20000 in
theorem ggX5_passes_X5_may : GoodIn wsX5_passes wsX5_may := goodIn_r _ [17, 18, 9, 19, 20, 21, 22, 23, 24, 25, 26, 27, 28, 29] (by decide +kernel) (by decide +kernel)
set_option maxRecDepth 20000 in
theorem gX5_passes_X5_may : GoodIn wsX5_passes (wsV RX5 66 RX5 yX5_may wsX5_may) := goodIn_app (goodIn_of _ (by decide +kernel)) ggX5_passes_X5_may
theorem dX5_passes_0 : decode cX5_passes 0 = .ok (.aload_n 0, 1) := by decide +kernel
theorem dX5_passes_1 : decode cX5_passes 1 = .ok (.iload_n 1, 1) := by decide +kernel
theorem dX5_passes_2 : decode cX5_passes 2 = .ok (.iload_n 3, 1) := by decide +kernel
theorem dX5_passes_3 : decode cX5_passes 3 = .ok (.invokevirtual 70, 3) := by decide +kernel
theorem dX5_passes_6 : decode cX5_passes 6 = .ok (.istore 6, 2) := by decide +kernel
theorem dX5_passes_8 : decode cX5_passes 8 = .ok (.iload 6, 2) := by decide +kernel
theorem dX5_passes_10 : decode cX5_passes 10 = .ok (.ifCond .eq 6, 3) := by decide +kernel
theorem dX5_passes_13 : decode cX5_passes 13 = .ok (.iload 6, 2) := by decide +kernel
theorem dX5_passes_15 : decode cX5_passes 15 = .ok (.ireturn, 1) := by decide +kernel
theorem dX5_passes_16 : decode cX5_passes 16 = .ok (.aload_n 0, 1) := by decide +kernel
theorem dX5_passes_17 : decode cX5_passes 17 = .ok (.getfield 7, 3) := by decide +kernel
theorem dX5_passes_20 : decode cX5_passes 20 = .ok (.iload_n 1, 1) := by decide +kernel
theorem dX5_passes_21 : decode cX5_passes 21 = .ok (.iaload, 1) := by decide +kernel
theorem dX5_passes_22 : decode cX5_passes 22 = .ok (.istore 7, 2) := by decide +kernel
theorem dX5_passes_24 : decode cX5_passes 24 = .ok (.aload_n 0, 1) := by decide +kernel
theorem dX5_passes_25 : decode cX5_passes 25 = .ok (.getfield 7, 3) := by decide +kernel
theorem dX5_passes_28 : decode cX5_passes 28 = .ok (.iload_n 3, 1) := by decide +kernel
theorem dX5_passes_29 : decode cX5_passes 29 = .ok (.iaload, 1) := by decide +kernel
theorem dX5_passes_30 : decode cX5_passes 30 = .ok (.istore 8, 2) := by decide +kernel
theorem dX5_passes_32 : decode cX5_passes 32 = .ok (.iload_n 2, 1) := by decide +kernel
theorem dX5_passes_33 : decode cX5_passes 33 = .ok (.ifCond .lt 66, 3) := by decide +kernel
theorem dX5_passes_36 : decode cX5_passes 36 = .ok (.iload 4, 2) := by decide +kernel
theorem dX5_passes_38 : decode cX5_passes 38 = .ok (.ifCond .lt 61, 3) := by decide +kernel
theorem dX5_passes_41 : decode cX5_passes 41 = .ok (.iload 5, 2) := by decide +kernel
theorem dX5_passes_43 : decode cX5_passes 43 = .ok (.ifCond .lt 56, 3) := by decide +kernel
theorem dX5_passes_46 : decode cX5_passes 46 = .ok (.iload 5, 2) := by decide +kernel
theorem dX5_passes_48 : decode cX5_passes 48 = .ok (.aload_n 0, 1) := by decide +kernel
theorem dX5_passes_49 : decode cX5_passes 49 = .ok (.getfield 16, 3) := by decide +kernel
theorem dX5_passes_52 : decode cX5_passes 52 = .ok (.iload 7, 2) := by decide +kernel
theorem dX5_passes_54 : decode cX5_passes 54 = .ok (.iaload, 1) := by decide +kernel
theorem dX5_passes_55 : decode cX5_passes 55 = .ok (.if_icmp .gt 44, 3) := by decide +kernel
theorem dX5_passes_58 : decode cX5_passes 58 = .ok (.iload 5, 2) := by decide +kernel
theorem dX5_passes_60 : decode cX5_passes 60 = .ok (.aload_n 0, 1) := by decide +kernel
theorem dX5_passes_61 : decode cX5_passes 61 = .ok (.getfield 16, 3) := by decide +kernel
theorem dX5_passes_64 : decode cX5_passes 64 = .ok (.iload 8, 2) := by decide +kernel
theorem dX5_passes_66 : decode cX5_passes 66 = .ok (.iaload, 1) := by decide +kernel
theorem dX5_passes_67 : decode cX5_passes 67 = .ok (.if_icmp .gt 32, 3) := by decide +kernel
theorem dX5_passes_70 : decode cX5_passes 70 = .ok (.iload_n 2, 1) := by decide +kernel
theorem dX5_passes_71 : decode cX5_passes 71 = .ok (.aload_n 0, 1) := by decide +kernel
theorem dX5_passes_72 : decode cX5_passes 72 = .ok (.getfield 16, 3) := by decide +kernel
theorem dX5_passes_75 : decode cX5_passes 75 = .ok (.iload 7, 2) := by decide +kernel
theorem dX5_passes_77 : decode cX5_passes 77 = .ok (.iaload, 1) := by decide +kernel
theorem dX5_passes_78 : decode cX5_passes 78 = .ok (.iload 5, 2) := by decide +kernel
theorem dX5_passes_80 : decode cX5_passes 80 = .ok (.isub, 1) := by decide +kernel
theorem dX5_passes_81 : decode cX5_passes 81 = .ok (.if_icmp .gt 18, 3) := by decide +kernel
theorem dX5_passes_84 : decode cX5_passes 84 = .ok (.iload 4, 2) := by decide +kernel
theorem dX5_passes_86 : decode cX5_passes 86 = .ok (.aload_n 0, 1) := by decide +kernel
theorem dX5_passes_87 : decode cX5_passes 87 = .ok (.getfield 16, 3) := by decide +kernel
theorem dX5_passes_90 : decode cX5_passes 90 = .ok (.iload 8, 2) := by decide +kernel
theorem dX5_passes_92 : decode cX5_passes 92 = .ok (.iaload, 1) := by decide +kernel
theorem dX5_passes_93 : decode cX5_passes 93 = .ok (.iload 5, 2) := by decide +kernel
theorem dX5_passes_95 : decode cX5_passes 95 = .ok (.isub, 1) := by decide +kernel
theorem dX5_passes_96 : decode cX5_passes 96 = .ok (.if_icmp .le 6, 3) := by decide +kernel
theorem dX5_passes_99 : decode cX5_passes 99 = .ok (.bipush (-3), 2) := by decide +kernel
theorem dX5_passes_101 : decode cX5_passes 101 = .ok (.ireturn, 1) := by decide +kernel
theorem dX5_passes_102 : decode cX5_passes 102 = .ok (.iload 5, 2) := by decide +kernel
theorem dX5_passes_104 : decode cX5_passes 104 = .ok (.istore 9, 2) := by decide +kernel
theorem dX5_passes_106 : decode cX5_passes 106 = .ok (.iload 5, 2) := by decide +kernel
theorem dX5_passes_108 : decode cX5_passes 108 = .ok (.iconst 1, 1) := by decide +kernel
theorem dX5_passes_109 : decode cX5_passes 109 = .ok (.isub, 1) := by decide +kernel
theorem dX5_passes_110 : decode cX5_passes 110 = .ok (.istore 10, 2) := by decide +kernel
theorem dX5_passes_112 : decode cX5_passes 112 = .ok (.iload 10, 2) := by decide +kernel
theorem dX5_passes_114 : decode cX5_passes 114 = .ok (.ifCond .lt 46, 3) := by decide +kernel
theorem dX5_passes_117 : decode cX5_passes 117 = .ok (.aload_n 0, 1) := by decide +kernel
theorem dX5_passes_118 : decode cX5_passes 118 = .ok (.iload 7, 2) := by decide +kernel
theorem dX5_passes_120 : decode cX5_passes 120 = .ok (.invokevirtual 57, 3) := by decide +kernel
theorem dX5_passes_123 : decode cX5_passes 123 = .ok (.ifCond .eq 31, 3) := by decide +kernel
theorem dX5_passes_126 : decode cX5_passes 126 = .ok (.aload_n 0, 1) := by decide +kernel
theorem dX5_passes_127 : decode cX5_passes 127 = .ok (.iload 8, 2) := by decide +kernel
theorem dX5_passes_129 : decode cX5_passes 129 = .ok (.aload_n 0, 1) := by decide +kernel
theorem dX5_passes_130 : decode cX5_passes 130 = .ok (.getfield 19, 3) := by decide +kernel
theorem dX5_passes_133 : decode cX5_passes 133 = .ok (.bipush 40, 2) := by decide +kernel
theorem dX5_passes_135 : decode cX5_passes 135 = .ok (.iload 7, 2) := by decide +kernel
theorem dX5_passes_137 : decode cX5_passes 137 = .ok (.imul, 1) := by decide +kernel
theorem dX5_passes_138 : decode cX5_passes 138 = .ok (.iload_n 2, 1) := by decide +kernel
theorem dX5_passes_139 : decode cX5_passes 139 = .ok (.iadd, 1) := by decide +kernel
theorem dX5_passes_140 : decode cX5_passes 140 = .ok (.iload 10, 2) := by decide +kernel
theorem dX5_passes_142 : decode cX5_passes 142 = .ok (.iadd, 1) := by decide +kernel
theorem dX5_passes_143 : decode cX5_passes 143 = .ok (.laload, 1) := by decide +kernel
theorem dX5_passes_144 : decode cX5_passes 144 = .ok (.invokevirtual 66, 3) := by decide +kernel
theorem dX5_passes_147 : decode cX5_passes 147 = .ok (.ifCond .ne 7, 3) := by decide +kernel
theorem dX5_passes_150 : decode cX5_passes 150 = .ok (.iload 10, 2) := by decide +kernel
theorem dX5_passes_152 : decode cX5_passes 152 = .ok (.istore 9, 2) := by decide +kernel
theorem dX5_passes_154 : decode cX5_passes 154 = .ok (.iinc 10 (-1), 3) := by decide +kernel
theorem dX5_passes_157 : decode cX5_passes 157 = .ok (.goto (-45), 3) := by decide +kernel
theorem dX5_passes_160 : decode cX5_passes 160 = .ok (.iload 7, 2) := by decide +kernel
theorem dX5_passes_162 : decode cX5_passes 162 = .ok (.iload 8, 2) := by decide +kernel
theorem dX5_passes_164 : decode cX5_passes 164 = .ok (.if_icmp .ne 13, 3) := by decide +kernel
theorem dX5_passes_167 : decode cX5_passes 167 = .ok (.iload 4, 2) := by decide +kernel
theorem dX5_passes_169 : decode cX5_passes 169 = .ok (.iload_n 2, 1) := by decide +kernel
theorem dX5_passes_170 : decode cX5_passes 170 = .ok (.if_icmp .le 7, 3) := by decide +kernel
theorem dX5_passes_173 : decode cX5_passes 173 = .ok (.iconst 1, 1) := by decide +kernel
theorem dX5_passes_174 : decode cX5_passes 174 = .ok (.goto 4, 3) := by decide +kernel
theorem dX5_passes_177 : decode cX5_passes 177 = .ok (.iconst 0, 1) := by decide +kernel
theorem dX5_passes_178 : decode cX5_passes 178 = .ok (.istore 10, 2) := by decide +kernel
theorem dX5_passes_180 : decode cX5_passes 180 = .ok (.iconst 0, 1) := by decide +kernel
theorem dX5_passes_181 : decode cX5_passes 181 = .ok (.istore 11, 2) := by decide +kernel
theorem dX5_passes_183 : decode cX5_passes 183 = .ok (.iload 11, 2) := by decide +kernel
theorem dX5_passes_185 : decode cX5_passes 185 = .ok (.iload 9, 2) := by decide +kernel
theorem dX5_passes_187 : decode cX5_passes 187 = .ok (.if_icmp .ge 59, 3) := by decide +kernel
theorem dX5_passes_190 : decode cX5_passes 190 = .ok (.iload 10, 2) := by decide +kernel
theorem dX5_passes_192 : decode cX5_passes 192 = .ok (.ifCond .eq 13, 3) := by decide +kernel
theorem dX5_passes_195 : decode cX5_passes 195 = .ok (.iload 9, 2) := by decide +kernel
theorem dX5_passes_197 : decode cX5_passes 197 = .ok (.iconst 1, 1) := by decide +kernel
theorem dX5_passes_198 : decode cX5_passes 198 = .ok (.isub, 1) := by decide +kernel
theorem dX5_passes_199 : decode cX5_passes 199 = .ok (.iload 11, 2) := by decide +kernel
theorem dX5_passes_201 : decode cX5_passes 201 = .ok (.isub, 1) := by decide +kernel
theorem dX5_passes_202 : decode cX5_passes 202 = .ok (.goto 5, 3) := by decide +kernel
theorem dX5_passes_205 : decode cX5_passes 205 = .ok (.iload 11, 2) := by decide +kernel
theorem dX5_passes_207 : decode cX5_passes 207 = .ok (.istore 12, 2) := by decide +kernel
theorem dX5_passes_209 : decode cX5_passes 209 = .ok (.aload_n 0, 1) := by decide +kernel
theorem dX5_passes_210 : decode cX5_passes 210 = .ok (.getfield 19, 3) := by decide +kernel
theorem dX5_passes_213 : decode cX5_passes 213 = .ok (.bipush 40, 2) := by decide +kernel
theorem dX5_passes_215 : decode cX5_passes 215 = .ok (.iload 8, 2) := by decide +kernel
theorem dX5_passes_217 : decode cX5_passes 217 = .ok (.imul, 1) := by decide +kernel
theorem dX5_passes_218 : decode cX5_passes 218 = .ok (.iload 4, 2) := by decide +kernel
theorem dX5_passes_220 : decode cX5_passes 220 = .ok (.iadd, 1) := by decide +kernel
theorem dX5_passes_221 : decode cX5_passes 221 = .ok (.iload 12, 2) := by decide +kernel
theorem dX5_passes_223 : decode cX5_passes 223 = .ok (.iadd, 1) := by decide +kernel
theorem dX5_passes_224 : decode cX5_passes 224 = .ok (.aload_n 0, 1) := by decide +kernel
theorem dX5_passes_225 : decode cX5_passes 225 = .ok (.getfield 19, 3) := by decide +kernel
theorem dX5_passes_228 : decode cX5_passes 228 = .ok (.bipush 40, 2) := by decide +kernel
theorem dX5_passes_230 : decode cX5_passes 230 = .ok (.iload 7, 2) := by decide +kernel
theorem dX5_passes_232 : decode cX5_passes 232 = .ok (.imul, 1) := by decide +kernel
theorem dX5_passes_233 : decode cX5_passes 233 = .ok (.iload_n 2, 1) := by decide +kernel
theorem dX5_passes_234 : decode cX5_passes 234 = .ok (.iadd, 1) := by decide +kernel
theorem dX5_passes_235 : decode cX5_passes 235 = .ok (.iload 12, 2) := by decide +kernel
theorem dX5_passes_237 : decode cX5_passes 237 = .ok (.iadd, 1) := by decide +kernel
theorem dX5_passes_238 : decode cX5_passes 238 = .ok (.laload, 1) := by decide +kernel
theorem dX5_passes_239 : decode cX5_passes 239 = .ok (.lastore, 1) := by decide +kernel
theorem dX5_passes_240 : decode cX5_passes 240 = .ok (.iinc 11 1, 3) := by decide +kernel
theorem dX5_passes_243 : decode cX5_passes 243 = .ok (.goto (-60), 3) := by decide +kernel
theorem dX5_passes_246 : decode cX5_passes 246 = .ok (.iload 9, 2) := by decide +kernel
theorem dX5_passes_248 : decode cX5_passes 248 = .ok (.iload 5, 2) := by decide +kernel
theorem dX5_passes_250 : decode cX5_passes 250 = .ok (.if_icmp .ge 11, 3) := by decide +kernel
theorem dX5_passes_253 : decode cX5_passes 253 = .ok (.bipush (-10), 2) := by decide +kernel
theorem dX5_passes_255 : decode cX5_passes 255 = .ok (.iload 9, 2) := by decide +kernel
theorem dX5_passes_257 : decode cX5_passes 257 = .ok (.isub, 1) := by decide +kernel
theorem dX5_passes_258 : decode cX5_passes 258 = .ok (.goto 5, 3) := by decide +kernel
theorem dX5_passes_261 : decode cX5_passes 261 = .ok (.iload 5, 2) := by decide +kernel
theorem dX5_passes_263 : decode cX5_passes 263 = .ok (.ireturn, 1) := by decide +kernel
set_option maxRecDepth 20000 in
theorem ggX5_copy_X5_isScribe : GoodIn wsX5_copy wsX5_isScribe := goodIn_r _ [9] (by decide +kernel) (by decide +kernel)
set_option maxRecDepth 20000 in
theorem gX5_copy_X5_isScribe : GoodIn wsX5_copy (va_wsS RX5 74 yX5_isScribe wsX5_isScribe) := goodIn_app (goodIn_of _ (by decide +kernel)) ggX5_copy_X5_isScribe
set_option maxRecDepth 20000 in
theorem ggX5_copy_X5_isDesk : GoodIn wsX5_copy wsX5_isDesk := goodIn_r _ [12] (by decide +kernel) (by decide +kernel)
set_option maxRecDepth 20000 in
theorem gX5_copy_X5_isDesk : GoodIn wsX5_copy (va_wsS RX5 45 yX5_isDesk wsX5_isDesk) := goodIn_app (goodIn_of _ (by decide +kernel)) ggX5_copy_X5_isDesk
set_option maxRecDepth 20000 in
theorem ggX5_copy_X5_passes : GoodIn wsX5_copy wsX5_passes := goodIn_r _ [16, 17, 18, 19, 20, 21, 22, 8, 23, 24, 25, 26, 27, 28, 29, 30, 31, 32, 33, 34, 35, 36, 37, 38, 39, 40, 41, 42, 43, 44] (by decide +kernel) (by decide +kernel)
set_option maxRecDepth 20000 in
theorem gX5_copy_X5_passes : GoodIn wsX5_copy (wsV RX5 77 RX5 yX5_passes wsX5_passes) := goodIn_app (goodIn_of _ (by decide +kernel)) ggX5_copy_X5_passes
theorem dX5_copy_0 : decode cX5_copy 0 = .ok (.aload_n 0, 1) := by decide +kernel
theorem dX5_copy_1 : decode cX5_copy 1 = .ok (.iconst 0, 1) := by decide +kernel
theorem dX5_copy_2 : decode cX5_copy 2 = .ok (.putfield 41, 3) := by decide +kernel
theorem dX5_copy_5 : decode cX5_copy 5 = .ok (.iload_n 1, 1) := by decide +kernel
theorem dX5_copy_6 : decode cX5_copy 6 = .ok (.invokestatic 74, 3) := by decide +kernel
theorem dX5_copy_9 : decode cX5_copy 9 = .ok (.ifCond .eq 18, 3) := by decide +kernel
theorem dX5_copy_12 : decode cX5_copy 12 = .ok (.iload_n 2, 1) := by decide +kernel
theorem dX5_copy_13 : decode cX5_copy 13 = .ok (.invokestatic 45, 3) := by decide +kernel
theorem dX5_copy_16 : decode cX5_copy 16 = .ok (.ifCond .eq 11, 3) := by decide +kernel
theorem dX5_copy_19 : decode cX5_copy 19 = .ok (.iload 4, 2) := by decide +kernel
theorem dX5_copy_21 : decode cX5_copy 21 = .ok (.invokestatic 45, 3) := by decide +kernel
theorem dX5_copy_24 : decode cX5_copy 24 = .ok (.ifCond .ne 6, 3) := by decide +kernel
theorem dX5_copy_27 : decode cX5_copy 27 = .ok (.bipush (-99), 2) := by decide +kernel
theorem dX5_copy_29 : decode cX5_copy 29 = .ok (.ireturn, 1) := by decide +kernel
theorem dX5_copy_30 : decode cX5_copy 30 = .ok (.aload_n 0, 1) := by decide +kernel
theorem dX5_copy_31 : decode cX5_copy 31 = .ok (.getfield 23, 3) := by decide +kernel
theorem dX5_copy_34 : decode cX5_copy 34 = .ok (.iload_n 1, 1) := by decide +kernel
theorem dX5_copy_35 : decode cX5_copy 35 = .ok (.iaload, 1) := by decide +kernel
theorem dX5_copy_36 : decode cX5_copy 36 = .ok (.iload 6, 2) := by decide +kernel
theorem dX5_copy_38 : decode cX5_copy 38 = .ok (.if_icmp .ge 6, 3) := by decide +kernel
theorem dX5_copy_41 : decode cX5_copy 41 = .ok (.bipush (-50), 2) := by decide +kernel
theorem dX5_copy_43 : decode cX5_copy 43 = .ok (.ireturn, 1) := by decide +kernel
theorem dX5_copy_44 : decode cX5_copy 44 = .ok (.aload_n 0, 1) := by decide +kernel
theorem dX5_copy_45 : decode cX5_copy 45 = .ok (.iload_n 2, 1) := by decide +kernel
theorem dX5_copy_46 : decode cX5_copy 46 = .ok (.iload_n 3, 1) := by decide +kernel
theorem dX5_copy_47 : decode cX5_copy 47 = .ok (.iload 4, 2) := by decide +kernel
theorem dX5_copy_49 : decode cX5_copy 49 = .ok (.iload 5, 2) := by decide +kernel
theorem dX5_copy_51 : decode cX5_copy 51 = .ok (.iload 6, 2) := by decide +kernel
theorem dX5_copy_53 : decode cX5_copy 53 = .ok (.invokevirtual 77, 3) := by decide +kernel
theorem dX5_copy_56 : decode cX5_copy 56 = .ok (.istore 7, 2) := by decide +kernel
theorem dX5_copy_58 : decode cX5_copy 58 = .ok (.iload 7, 2) := by decide +kernel
theorem dX5_copy_60 : decode cX5_copy 60 = .ok (.bipush (-10), 2) := by decide +kernel
theorem dX5_copy_62 : decode cX5_copy 62 = .ok (.if_icmp .gt 11, 3) := by decide +kernel
theorem dX5_copy_65 : decode cX5_copy 65 = .ok (.bipush (-10), 2) := by decide +kernel
theorem dX5_copy_67 : decode cX5_copy 67 = .ok (.iload 7, 2) := by decide +kernel
theorem dX5_copy_69 : decode cX5_copy 69 = .ok (.isub, 1) := by decide +kernel
theorem dX5_copy_70 : decode cX5_copy 70 = .ok (.goto 14, 3) := by decide +kernel
theorem dX5_copy_73 : decode cX5_copy 73 = .ok (.iload 7, 2) := by decide +kernel
theorem dX5_copy_75 : decode cX5_copy 75 = .ok (.ifCond .le 8, 3) := by decide +kernel
theorem dX5_copy_78 : decode cX5_copy 78 = .ok (.iload 7, 2) := by decide +kernel
theorem dX5_copy_80 : decode cX5_copy 80 = .ok (.goto 4, 3) := by decide +kernel
theorem dX5_copy_83 : decode cX5_copy 83 = .ok (.iconst 0, 1) := by decide +kernel
theorem dX5_copy_84 : decode cX5_copy 84 = .ok (.istore 8, 2) := by decide +kernel
theorem dX5_copy_86 : decode cX5_copy 86 = .ok (.aload_n 0, 1) := by decide +kernel
theorem dX5_copy_87 : decode cX5_copy 87 = .ok (.getfield 23, 3) := by decide +kernel
theorem dX5_copy_90 : decode cX5_copy 90 = .ok (.iload_n 1, 1) := by decide +kernel
theorem dX5_copy_91 : decode cX5_copy 91 = .ok (.dup2, 1) := by decide +kernel
theorem dX5_copy_92 : decode cX5_copy 92 = .ok (.iaload, 1) := by decide +kernel
theorem dX5_copy_93 : decode cX5_copy 93 = .ok (.iload 8, 2) := by decide +kernel
theorem dX5_copy_95 : decode cX5_copy 95 = .ok (.isub, 1) := by decide +kernel
theorem dX5_copy_96 : decode cX5_copy 96 = .ok (.iastore, 1) := by decide +kernel
theorem dX5_copy_97 : decode cX5_copy 97 = .ok (.aload_n 0, 1) := by decide +kernel
theorem dX5_copy_98 : decode cX5_copy 98 = .ok (.getfield 26, 3) := by decide +kernel
theorem dX5_copy_101 : decode cX5_copy 101 = .ok (.iload_n 1, 1) := by decide +kernel
theorem dX5_copy_102 : decode cX5_copy 102 = .ok (.dup2, 1) := by decide +kernel
theorem dX5_copy_103 : decode cX5_copy 103 = .ok (.iaload, 1) := by decide +kernel
theorem dX5_copy_104 : decode cX5_copy 104 = .ok (.iload 8, 2) := by decide +kernel
theorem dX5_copy_106 : decode cX5_copy 106 = .ok (.iadd, 1) := by decide +kernel
theorem dX5_copy_107 : decode cX5_copy 107 = .ok (.iastore, 1) := by decide +kernel
theorem dX5_copy_108 : decode cX5_copy 108 = .ok (.aload_n 0, 1) := by decide +kernel
theorem dX5_copy_109 : decode cX5_copy 109 = .ok (.getfield 38, 3) := by decide +kernel
theorem dX5_copy_112 : decode cX5_copy 112 = .ok (.bipush 6, 2) := by decide +kernel
theorem dX5_copy_114 : decode cX5_copy 114 = .ok (.dup2, 1) := by decide +kernel
theorem dX5_copy_115 : decode cX5_copy 115 = .ok (.iaload, 1) := by decide +kernel
theorem dX5_copy_116 : decode cX5_copy 116 = .ok (.iload 8, 2) := by decide +kernel
theorem dX5_copy_118 : decode cX5_copy 118 = .ok (.iadd, 1) := by decide +kernel
theorem dX5_copy_119 : decode cX5_copy 119 = .ok (.iastore, 1) := by decide +kernel
theorem dX5_copy_120 : decode cX5_copy 120 = .ok (.aload_n 0, 1) := by decide +kernel
theorem dX5_copy_121 : decode cX5_copy 121 = .ok (.getfield 38, 3) := by decide +kernel
theorem dX5_copy_124 : decode cX5_copy 124 = .ok (.iconst 0, 1) := by decide +kernel
theorem dX5_copy_125 : decode cX5_copy 125 = .ok (.iaload, 1) := by decide +kernel
theorem dX5_copy_126 : decode cX5_copy 126 = .ok (.bipush 16, 2) := by decide +kernel
theorem dX5_copy_128 : decode cX5_copy 128 = .ok (.irem, 1) := by decide +kernel
theorem dX5_copy_129 : decode cX5_copy 129 = .ok (.istore 9, 2) := by decide +kernel
theorem dX5_copy_131 : decode cX5_copy 131 = .ok (.aload_n 0, 1) := by decide +kernel
theorem dX5_copy_132 : decode cX5_copy 132 = .ok (.getfield 35, 3) := by decide +kernel
theorem dX5_copy_135 : decode cX5_copy 135 = .ok (.iconst 4, 1) := by decide +kernel
theorem dX5_copy_136 : decode cX5_copy 136 = .ok (.iload 9, 2) := by decide +kernel
theorem dX5_copy_138 : decode cX5_copy 138 = .ok (.imul, 1) := by decide +kernel
theorem dX5_copy_139 : decode cX5_copy 139 = .ok (.iload_n 1, 1) := by decide +kernel
theorem dX5_copy_140 : decode cX5_copy 140 = .ok (.iastore, 1) := by decide +kernel
theorem dX5_copy_141 : decode cX5_copy 141 = .ok (.aload_n 0, 1) := by decide +kernel
theorem dX5_copy_142 : decode cX5_copy 142 = .ok (.getfield 35, 3) := by decide +kernel
theorem dX5_copy_145 : decode cX5_copy 145 = .ok (.iconst 4, 1) := by decide +kernel
theorem dX5_copy_146 : decode cX5_copy 146 = .ok (.iload 9, 2) := by decide +kernel
theorem dX5_copy_148 : decode cX5_copy 148 = .ok (.imul, 1) := by decide +kernel
theorem dX5_copy_149 : decode cX5_copy 149 = .ok (.iconst 1, 1) := by decide +kernel
theorem dX5_copy_150 : decode cX5_copy 150 = .ok (.iadd, 1) := by decide +kernel
theorem dX5_copy_151 : decode cX5_copy 151 = .ok (.iload_n 2, 1) := by decide +kernel
theorem dX5_copy_152 : decode cX5_copy 152 = .ok (.iastore, 1) := by decide +kernel
theorem dX5_copy_153 : decode cX5_copy 153 = .ok (.aload_n 0, 1) := by decide +kernel
theorem dX5_copy_154 : decode cX5_copy 154 = .ok (.getfield 35, 3) := by decide +kernel
theorem dX5_copy_157 : decode cX5_copy 157 = .ok (.iconst 4, 1) := by decide +kernel
theorem dX5_copy_158 : decode cX5_copy 158 = .ok (.iload 9, 2) := by decide +kernel
theorem dX5_copy_160 : decode cX5_copy 160 = .ok (.imul, 1) := by decide +kernel
theorem dX5_copy_161 : decode cX5_copy 161 = .ok (.iconst 2, 1) := by decide +kernel
theorem dX5_copy_162 : decode cX5_copy 162 = .ok (.iadd, 1) := by decide +kernel
theorem dX5_copy_163 : decode cX5_copy 163 = .ok (.iload 4, 2) := by decide +kernel
theorem dX5_copy_165 : decode cX5_copy 165 = .ok (.iastore, 1) := by decide +kernel
theorem dX5_copy_166 : decode cX5_copy 166 = .ok (.aload_n 0, 1) := by decide +kernel
theorem dX5_copy_167 : decode cX5_copy 167 = .ok (.getfield 35, 3) := by decide +kernel
theorem dX5_copy_170 : decode cX5_copy 170 = .ok (.iconst 4, 1) := by decide +kernel
theorem dX5_copy_171 : decode cX5_copy 171 = .ok (.iload 9, 2) := by decide +kernel
theorem dX5_copy_173 : decode cX5_copy 173 = .ok (.imul, 1) := by decide +kernel
theorem dX5_copy_174 : decode cX5_copy 174 = .ok (.iconst 3, 1) := by decide +kernel
theorem dX5_copy_175 : decode cX5_copy 175 = .ok (.iadd, 1) := by decide +kernel
theorem dX5_copy_176 : decode cX5_copy 176 = .ok (.iload 7, 2) := by decide +kernel
theorem dX5_copy_178 : decode cX5_copy 178 = .ok (.iastore, 1) := by decide +kernel
theorem dX5_copy_179 : decode cX5_copy 179 = .ok (.aload_n 0, 1) := by decide +kernel
theorem dX5_copy_180 : decode cX5_copy 180 = .ok (.getfield 38, 3) := by decide +kernel
theorem dX5_copy_183 : decode cX5_copy 183 = .ok (.iconst 0, 1) := by decide +kernel
theorem dX5_copy_184 : decode cX5_copy 184 = .ok (.dup2, 1) := by decide +kernel
theorem dX5_copy_185 : decode cX5_copy 185 = .ok (.iaload, 1) := by decide +kernel
theorem dX5_copy_186 : decode cX5_copy 186 = .ok (.iconst 1, 1) := by decide +kernel
theorem dX5_copy_187 : decode cX5_copy 187 = .ok (.iadd, 1) := by decide +kernel
theorem dX5_copy_188 : decode cX5_copy 188 = .ok (.iastore, 1) := by decide +kernel
theorem dX5_copy_189 : decode cX5_copy 189 = .ok (.aload_n 0, 1) := by decide +kernel
theorem dX5_copy_190 : decode cX5_copy 190 = .ok (.getfield 38, 3) := by decide +kernel
theorem dX5_copy_193 : decode cX5_copy 193 = .ok (.iload 7, 2) := by decide +kernel
theorem dX5_copy_195 : decode cX5_copy 195 = .ok (.ifCond .lt 7, 3) := by decide +kernel
theorem dX5_copy_198 : decode cX5_copy 198 = .ok (.iconst 1, 1) := by decide +kernel
theorem dX5_copy_199 : decode cX5_copy 199 = .ok (.goto 18, 3) := by decide +kernel
theorem dX5_copy_202 : decode cX5_copy 202 = .ok (.iload 7, 2) := by decide +kernel
theorem dX5_copy_204 : decode cX5_copy 204 = .ok (.bipush (-10), 2) := by decide +kernel
theorem dX5_copy_206 : decode cX5_copy 206 = .ok (.if_icmp .gt 7, 3) := by decide +kernel
theorem dX5_copy_209 : decode cX5_copy 209 = .ok (.iconst 5, 1) := by decide +kernel
theorem dX5_copy_210 : decode cX5_copy 210 = .ok (.goto 7, 3) := by decide +kernel
theorem dX5_copy_213 : decode cX5_copy 213 = .ok (.iconst 1, 1) := by decide +kernel
theorem dX5_copy_214 : decode cX5_copy 214 = .ok (.iload 7, 2) := by decide +kernel
theorem dX5_copy_216 : decode cX5_copy 216 = .ok (.isub, 1) := by decide +kernel
theorem dX5_copy_217 : decode cX5_copy 217 = .ok (.dup2, 1) := by decide +kernel
theorem dX5_copy_218 : decode cX5_copy 218 = .ok (.iaload, 1) := by decide +kernel
theorem dX5_copy_219 : decode cX5_copy 219 = .ok (.iconst 1, 1) := by decide +kernel
theorem dX5_copy_220 : decode cX5_copy 220 = .ok (.iadd, 1) := by decide +kernel
theorem dX5_copy_221 : decode cX5_copy 221 = .ok (.iastore, 1) := by decide +kernel
theorem dX5_copy_222 : decode cX5_copy 222 = .ok (.iload 7, 2) := by decide +kernel
theorem dX5_copy_224 : decode cX5_copy 224 = .ok (.ireturn, 1) := by decide +kernel
set_option maxRecDepth 20000 in
theorem ggX5_order_X5_isScribe : GoodIn wsX5_order wsX5_isScribe := goodIn_r _ [7] (by decide +kernel) (by decide +kernel)
set_option maxRecDepth 20000 in
theorem gX5_order_X5_isScribe : GoodIn wsX5_order (va_wsS RX5 74 yX5_isScribe wsX5_isScribe) := goodIn_app (goodIn_of _ (by decide +kernel)) ggX5_order_X5_isScribe
set_option maxRecDepth 20000 in
theorem ggX5_order_X5_isDesk : GoodIn wsX5_order wsX5_isDesk := goodIn_r _ [10] (by decide +kernel) (by decide +kernel)
set_option maxRecDepth 20000 in
theorem gX5_order_X5_isDesk : GoodIn wsX5_order (va_wsS RX5 45 yX5_isDesk wsX5_isDesk) := goodIn_app (goodIn_of _ (by decide +kernel)) ggX5_order_X5_isDesk
theorem dX5_order_0 : decode cX5_order 0 = .ok (.aload_n 0, 1) := by decide +kernel
theorem dX5_order_1 : decode cX5_order 1 = .ok (.iconst 0, 1) := by decide +kernel
theorem dX5_order_2 : decode cX5_order 2 = .ok (.putfield 41, 3) := by decide +kernel
theorem dX5_order_5 : decode cX5_order 5 = .ok (.iload_n 1, 1) := by decide +kernel
theorem dX5_order_6 : decode cX5_order 6 = .ok (.invokestatic 74, 3) := by decide +kernel
theorem dX5_order_9 : decode cX5_order 9 = .ok (.ifCond .eq 29, 3) := by decide +kernel
theorem dX5_order_12 : decode cX5_order 12 = .ok (.iload_n 2, 1) := by decide +kernel
theorem dX5_order_13 : decode cX5_order 13 = .ok (.invokestatic 45, 3) := by decide +kernel
theorem dX5_order_16 : decode cX5_order 16 = .ok (.ifCond .eq 22, 3) := by decide +kernel
theorem dX5_order_19 : decode cX5_order 19 = .ok (.iload 4, 2) := by decide +kernel
theorem dX5_order_21 : decode cX5_order 21 = .ok (.invokestatic 45, 3) := by decide +kernel
theorem dX5_order_24 : decode cX5_order 24 = .ok (.ifCond .eq 14, 3) := by decide +kernel
theorem dX5_order_27 : decode cX5_order 27 = .ok (.aload_n 0, 1) := by decide +kernel
theorem dX5_order_28 : decode cX5_order 28 = .ok (.getfield 32, 3) := by decide +kernel
theorem dX5_order_31 : decode cX5_order 31 = .ok (.iload_n 1, 1) := by decide +kernel
theorem dX5_order_32 : decode cX5_order 32 = .ok (.iaload, 1) := by decide +kernel
theorem dX5_order_33 : decode cX5_order 33 = .ok (.bipush 8, 2) := by decide +kernel
theorem dX5_order_35 : decode cX5_order 35 = .ok (.if_icmp .ne 6, 3) := by decide +kernel
theorem dX5_order_38 : decode cX5_order 38 = .ok (.bipush (-99), 2) := by decide +kernel
theorem dX5_order_40 : decode cX5_order 40 = .ok (.ireturn, 1) := by decide +kernel
theorem dX5_order_41 : decode cX5_order 41 = .ok (.iconst 5, 1) := by decide +kernel
theorem dX5_order_42 : decode cX5_order 42 = .ok (.bipush 8, 2) := by decide +kernel
theorem dX5_order_44 : decode cX5_order 44 = .ok (.iload_n 1, 1) := by decide +kernel
theorem dX5_order_45 : decode cX5_order 45 = .ok (.imul, 1) := by decide +kernel
theorem dX5_order_46 : decode cX5_order 46 = .ok (.aload_n 0, 1) := by decide +kernel
theorem dX5_order_47 : decode cX5_order 47 = .ok (.getfield 32, 3) := by decide +kernel
theorem dX5_order_50 : decode cX5_order 50 = .ok (.iload_n 1, 1) := by decide +kernel
theorem dX5_order_51 : decode cX5_order 51 = .ok (.iaload, 1) := by decide +kernel
theorem dX5_order_52 : decode cX5_order 52 = .ok (.iadd, 1) := by decide +kernel
theorem dX5_order_53 : decode cX5_order 53 = .ok (.imul, 1) := by decide +kernel
theorem dX5_order_54 : decode cX5_order 54 = .ok (.istore 7, 2) := by decide +kernel
theorem dX5_order_56 : decode cX5_order 56 = .ok (.aload_n 0, 1) := by decide +kernel
theorem dX5_order_57 : decode cX5_order 57 = .ok (.getfield 29, 3) := by decide +kernel
theorem dX5_order_60 : decode cX5_order 60 = .ok (.iload 7, 2) := by decide +kernel
theorem dX5_order_62 : decode cX5_order 62 = .ok (.iload_n 2, 1) := by decide +kernel
theorem dX5_order_63 : decode cX5_order 63 = .ok (.iastore, 1) := by decide +kernel
theorem dX5_order_64 : decode cX5_order 64 = .ok (.aload_n 0, 1) := by decide +kernel
theorem dX5_order_65 : decode cX5_order 65 = .ok (.getfield 29, 3) := by decide +kernel
theorem dX5_order_68 : decode cX5_order 68 = .ok (.iload 7, 2) := by decide +kernel
theorem dX5_order_70 : decode cX5_order 70 = .ok (.iconst 1, 1) := by decide +kernel
theorem dX5_order_71 : decode cX5_order 71 = .ok (.iadd, 1) := by decide +kernel
theorem dX5_order_72 : decode cX5_order 72 = .ok (.iload_n 3, 1) := by decide +kernel
theorem dX5_order_73 : decode cX5_order 73 = .ok (.iastore, 1) := by decide +kernel
theorem dX5_order_74 : decode cX5_order 74 = .ok (.aload_n 0, 1) := by decide +kernel
theorem dX5_order_75 : decode cX5_order 75 = .ok (.getfield 29, 3) := by decide +kernel
theorem dX5_order_78 : decode cX5_order 78 = .ok (.iload 7, 2) := by decide +kernel
theorem dX5_order_80 : decode cX5_order 80 = .ok (.iconst 2, 1) := by decide +kernel
theorem dX5_order_81 : decode cX5_order 81 = .ok (.iadd, 1) := by decide +kernel
theorem dX5_order_82 : decode cX5_order 82 = .ok (.iload 4, 2) := by decide +kernel
theorem dX5_order_84 : decode cX5_order 84 = .ok (.iastore, 1) := by decide +kernel
theorem dX5_order_85 : decode cX5_order 85 = .ok (.aload_n 0, 1) := by decide +kernel
theorem dX5_order_86 : decode cX5_order 86 = .ok (.getfield 29, 3) := by decide +kernel
theorem dX5_order_89 : decode cX5_order 89 = .ok (.iload 7, 2) := by decide +kernel
theorem dX5_order_91 : decode cX5_order 91 = .ok (.iconst 3, 1) := by decide +kernel
theorem dX5_order_92 : decode cX5_order 92 = .ok (.iadd, 1) := by decide +kernel
theorem dX5_order_93 : decode cX5_order 93 = .ok (.iload 5, 2) := by decide +kernel
theorem dX5_order_95 : decode cX5_order 95 = .ok (.iastore, 1) := by decide +kernel
theorem dX5_order_96 : decode cX5_order 96 = .ok (.aload_n 0, 1) := by decide +kernel
theorem dX5_order_97 : decode cX5_order 97 = .ok (.getfield 29, 3) := by decide +kernel
theorem dX5_order_100 : decode cX5_order 100 = .ok (.iload 7, 2) := by decide +kernel
theorem dX5_order_102 : decode cX5_order 102 = .ok (.iconst 4, 1) := by decide +kernel
theorem dX5_order_103 : decode cX5_order 103 = .ok (.iadd, 1) := by decide +kernel
theorem dX5_order_104 : decode cX5_order 104 = .ok (.iload 6, 2) := by decide +kernel
theorem dX5_order_106 : decode cX5_order 106 = .ok (.iastore, 1) := by decide +kernel
theorem dX5_order_107 : decode cX5_order 107 = .ok (.aload_n 0, 1) := by decide +kernel
theorem dX5_order_108 : decode cX5_order 108 = .ok (.getfield 32, 3) := by decide +kernel
theorem dX5_order_111 : decode cX5_order 111 = .ok (.iload_n 1, 1) := by decide +kernel
theorem dX5_order_112 : decode cX5_order 112 = .ok (.dup2, 1) := by decide +kernel
theorem dX5_order_113 : decode cX5_order 113 = .ok (.iaload, 1) := by decide +kernel
theorem dX5_order_114 : decode cX5_order 114 = .ok (.iconst 1, 1) := by decide +kernel
theorem dX5_order_115 : decode cX5_order 115 = .ok (.iadd, 1) := by decide +kernel
theorem dX5_order_116 : decode cX5_order 116 = .ok (.iastore, 1) := by decide +kernel
theorem dX5_order_117 : decode cX5_order 117 = .ok (.aload_n 0, 1) := by decide +kernel
theorem dX5_order_118 : decode cX5_order 118 = .ok (.getfield 32, 3) := by decide +kernel
theorem dX5_order_121 : decode cX5_order 121 = .ok (.iload_n 1, 1) := by decide +kernel
theorem dX5_order_122 : decode cX5_order 122 = .ok (.iaload, 1) := by decide +kernel
theorem dX5_order_123 : decode cX5_order 123 = .ok (.ireturn, 1) := by decide +kernel
set_option maxRecDepth 20000 in
theorem ggX5_day_X5_copy : GoodIn wsX5_day wsX5_copy := goodIn_r _ [8, 1, 9, 10, 11, 12, 13, 14, 7, 15, 16, 17, 18, 19, 20, 21, 22, 23, 24, 25, 26, 27, 28, 29, 30, 31, 32, 33, 34, 35, 36, 37, 38, 39, 40, 41, 42, 43, 44, 45, 46, 47, 48, 49, 50] (by decide +kernel) (by decide +kernel)
set_option maxRecDepth 20000 in
theorem gX5_day_X5_copy : GoodIn wsX5_day (wsV RX5 81 RX5 yX5_copy wsX5_copy) := goodIn_app (goodIn_of _ (by decide +kernel)) ggX5_day_X5_copy
theorem dX5_day_0 : decode cX5_day 0 = .ok (.aload_n 0, 1) := by decide +kernel
theorem dX5_day_1 : decode cX5_day 1 = .ok (.iconst 0, 1) := by decide +kernel
theorem dX5_day_2 : decode cX5_day 2 = .ok (.putfield 41, 3) := by decide +kernel
theorem dX5_day_5 : decode cX5_day 5 = .ok (.iconst 0, 1) := by decide +kernel
theorem dX5_day_6 : decode cX5_day 6 = .ok (.istore_n 1, 1) := by decide +kernel
theorem dX5_day_7 : decode cX5_day 7 = .ok (.iconst 0, 1) := by decide +kernel
theorem dX5_day_8 : decode cX5_day 8 = .ok (.istore_n 2, 1) := by decide +kernel
theorem dX5_day_9 : decode cX5_day 9 = .ok (.iload_n 2, 1) := by decide +kernel
theorem dX5_day_10 : decode cX5_day 10 = .ok (.iconst 3, 1) := by decide +kernel
theorem dX5_day_11 : decode cX5_day 11 = .ok (.if_icmp .ge 129, 3) := by decide +kernel
theorem dX5_day_14 : decode cX5_day 14 = .ok (.bipush 40, 2) := by decide +kernel
theorem dX5_day_16 : decode cX5_day 16 = .ok (.iload_n 2, 1) := by decide +kernel
theorem dX5_day_17 : decode cX5_day 17 = .ok (.imul, 1) := by decide +kernel
theorem dX5_day_18 : decode cX5_day 18 = .ok (.istore_n 3, 1) := by decide +kernel
theorem dX5_day_19 : decode cX5_day 19 = .ok (.aload_n 0, 1) := by decide +kernel
theorem dX5_day_20 : decode cX5_day 20 = .ok (.getfield 32, 3) := by decide +kernel
theorem dX5_day_23 : decode cX5_day 23 = .ok (.iload_n 2, 1) := by decide +kernel
theorem dX5_day_24 : decode cX5_day 24 = .ok (.iaload, 1) := by decide +kernel
theorem dX5_day_25 : decode cX5_day 25 = .ok (.ifCond .eq 109, 3) := by decide +kernel
theorem dX5_day_28 : decode cX5_day 28 = .ok (.aload_n 0, 1) := by decide +kernel
theorem dX5_day_29 : decode cX5_day 29 = .ok (.iload_n 2, 1) := by decide +kernel
theorem dX5_day_30 : decode cX5_day 30 = .ok (.aload_n 0, 1) := by decide +kernel
theorem dX5_day_31 : decode cX5_day 31 = .ok (.getfield 29, 3) := by decide +kernel
theorem dX5_day_34 : decode cX5_day 34 = .ok (.iload_n 3, 1) := by decide +kernel
theorem dX5_day_35 : decode cX5_day 35 = .ok (.iaload, 1) := by decide +kernel
theorem dX5_day_36 : decode cX5_day 36 = .ok (.aload_n 0, 1) := by decide +kernel
theorem dX5_day_37 : decode cX5_day 37 = .ok (.getfield 29, 3) := by decide +kernel
theorem dX5_day_40 : decode cX5_day 40 = .ok (.iload_n 3, 1) := by decide +kernel
theorem dX5_day_41 : decode cX5_day 41 = .ok (.iconst 1, 1) := by decide +kernel
theorem dX5_day_42 : decode cX5_day 42 = .ok (.iadd, 1) := by decide +kernel
theorem dX5_day_43 : decode cX5_day 43 = .ok (.iaload, 1) := by decide +kernel
theorem dX5_day_44 : decode cX5_day 44 = .ok (.aload_n 0, 1) := by decide +kernel
end
section
theorem dX5_day_45 : decode cX5_day 45 = .ok (.getfield 29, 3) := by decide +kernel
theorem dX5_day_48 : decode cX5_day 48 = .ok (.iload_n 3, 1) := by decide +kernel
theorem dX5_day_49 : decode cX5_day 49 = .ok (.iconst 2, 1) := by decide +kernel
theorem dX5_day_50 : decode cX5_day 50 = .ok (.iadd, 1) := by decide +kernel
theorem dX5_day_51 : decode cX5_day 51 = .ok (.iaload, 1) := by decide +kernel
theorem dX5_day_52 : decode cX5_day 52 = .ok (.aload_n 0, 1) := by decide +kernel
theorem dX5_day_53 : decode cX5_day 53 = .ok (.getfield 29, 3) := by decide +kernel
theorem dX5_day_56 : decode cX5_day 56 = .ok (.iload_n 3, 1) := by decide +kernel
theorem dX5_day_57 : decode cX5_day 57 = .ok (.iconst 3, 1) := by decide +kernel
theorem dX5_day_58 : decode cX5_day 58 = .ok (.iadd, 1) := by decide +kernel
theorem dX5_day_59 : decode cX5_day 59 = .ok (.iaload, 1) := by decide +kernel
theorem dX5_day_60 : decode cX5_day 60 = .ok (.aload_n 0, 1) := by decide +kernel
theorem dX5_day_61 : decode cX5_day 61 = .ok (.getfield 29, 3) := by decide +kernel
theorem dX5_day_64 : decode cX5_day 64 = .ok (.iload_n 3, 1) := by decide +kernel
theorem dX5_day_65 : decode cX5_day 65 = .ok (.iconst 4, 1) := by decide +kernel
theorem dX5_day_66 : decode cX5_day 66 = .ok (.iadd, 1) := by decide +kernel
theorem dX5_day_67 : decode cX5_day 67 = .ok (.iaload, 1) := by decide +kernel
theorem dX5_day_68 : decode cX5_day 68 = .ok (.invokevirtual 81, 3) := by decide +kernel
theorem dX5_day_71 : decode cX5_day 71 = .ok (.bipush (-50), 2) := by decide +kernel
theorem dX5_day_73 : decode cX5_day 73 = .ok (.if_icmp .ne 6, 3) := by decide +kernel
theorem dX5_day_76 : decode cX5_day 76 = .ok (.goto 58, 3) := by decide +kernel
theorem dX5_day_79 : decode cX5_day 79 = .ok (.aload_n 0, 1) := by decide +kernel
theorem dX5_day_80 : decode cX5_day 80 = .ok (.getfield 32, 3) := by decide +kernel
theorem dX5_day_83 : decode cX5_day 83 = .ok (.iload_n 2, 1) := by decide +kernel
theorem dX5_day_84 : decode cX5_day 84 = .ok (.dup2, 1) := by decide +kernel
theorem dX5_day_85 : decode cX5_day 85 = .ok (.iaload, 1) := by decide +kernel
theorem dX5_day_86 : decode cX5_day 86 = .ok (.iconst 1, 1) := by decide +kernel
theorem dX5_day_87 : decode cX5_day 87 = .ok (.isub, 1) := by decide +kernel
theorem dX5_day_88 : decode cX5_day 88 = .ok (.iastore, 1) := by decide +kernel
theorem dX5_day_89 : decode cX5_day 89 = .ok (.iconst 0, 1) := by decide +kernel
theorem dX5_day_90 : decode cX5_day 90 = .ok (.istore 4, 2) := by decide +kernel
theorem dX5_day_92 : decode cX5_day 92 = .ok (.iload 4, 2) := by decide +kernel
theorem dX5_day_94 : decode cX5_day 94 = .ok (.iconst 5, 1) := by decide +kernel
theorem dX5_day_95 : decode cX5_day 95 = .ok (.aload_n 0, 1) := by decide +kernel
theorem dX5_day_96 : decode cX5_day 96 = .ok (.getfield 32, 3) := by decide +kernel
theorem dX5_day_99 : decode cX5_day 99 = .ok (.iload_n 2, 1) := by decide +kernel
theorem dX5_day_100 : decode cX5_day 100 = .ok (.iaload, 1) := by decide +kernel
theorem dX5_day_101 : decode cX5_day 101 = .ok (.imul, 1) := by decide +kernel
theorem dX5_day_102 : decode cX5_day 102 = .ok (.if_icmp .ge 29, 3) := by decide +kernel
theorem dX5_day_105 : decode cX5_day 105 = .ok (.aload_n 0, 1) := by decide +kernel
theorem dX5_day_106 : decode cX5_day 106 = .ok (.getfield 29, 3) := by decide +kernel
theorem dX5_day_109 : decode cX5_day 109 = .ok (.iload_n 3, 1) := by decide +kernel
theorem dX5_day_110 : decode cX5_day 110 = .ok (.iload 4, 2) := by decide +kernel
theorem dX5_day_112 : decode cX5_day 112 = .ok (.iadd, 1) := by decide +kernel
theorem dX5_day_113 : decode cX5_day 113 = .ok (.aload_n 0, 1) := by decide +kernel
theorem dX5_day_114 : decode cX5_day 114 = .ok (.getfield 29, 3) := by decide +kernel
theorem dX5_day_117 : decode cX5_day 117 = .ok (.iload_n 3, 1) := by decide +kernel
theorem dX5_day_118 : decode cX5_day 118 = .ok (.iload 4, 2) := by decide +kernel
theorem dX5_day_120 : decode cX5_day 120 = .ok (.iadd, 1) := by decide +kernel
theorem dX5_day_121 : decode cX5_day 121 = .ok (.iconst 5, 1) := by decide +kernel
theorem dX5_day_122 : decode cX5_day 122 = .ok (.iadd, 1) := by decide +kernel
theorem dX5_day_123 : decode cX5_day 123 = .ok (.iaload, 1) := by decide +kernel
theorem dX5_day_124 : decode cX5_day 124 = .ok (.iastore, 1) := by decide +kernel
theorem dX5_day_125 : decode cX5_day 125 = .ok (.iinc 4 1, 3) := by decide +kernel
theorem dX5_day_128 : decode cX5_day 128 = .ok (.goto (-36), 3) := by decide +kernel
theorem dX5_day_131 : decode cX5_day 131 = .ok (.iinc 1 1, 3) := by decide +kernel
theorem dX5_day_134 : decode cX5_day 134 = .ok (.iinc 2 1, 3) := by decide +kernel
theorem dX5_day_137 : decode cX5_day 137 = .ok (.goto (-128), 3) := by decide +kernel
theorem dX5_day_140 : decode cX5_day 140 = .ok (.iload_n 1, 1) := by decide +kernel
theorem dX5_day_141 : decode cX5_day 141 = .ok (.ireturn, 1) := by decide +kernel
set_option maxRecDepth 20000 in
theorem ggX5_fill_X5_isScribe : GoodIn wsX5_fill wsX5_isScribe := goodIn_r _ [6] (by decide +kernel) (by decide +kernel)
set_option maxRecDepth 20000 in
theorem gX5_fill_X5_isScribe : GoodIn wsX5_fill (va_wsS RX5 74 yX5_isScribe wsX5_isScribe) := goodIn_app (goodIn_of _ (by decide +kernel)) ggX5_fill_X5_isScribe
theorem dX5_fill_0 : decode cX5_fill 0 = .ok (.aload_n 0, 1) := by decide +kernel
theorem dX5_fill_1 : decode cX5_fill 1 = .ok (.iconst 0, 1) := by decide +kernel
theorem dX5_fill_2 : decode cX5_fill 2 = .ok (.putfield 41, 3) := by decide +kernel
theorem dX5_fill_5 : decode cX5_fill 5 = .ok (.iload_n 1, 1) := by decide +kernel
theorem dX5_fill_6 : decode cX5_fill 6 = .ok (.invokestatic 74, 3) := by decide +kernel
theorem dX5_fill_9 : decode cX5_fill 9 = .ok (.ifCond .eq 14, 3) := by decide +kernel
theorem dX5_fill_12 : decode cX5_fill 12 = .ok (.iload_n 2, 1) := by decide +kernel
theorem dX5_fill_13 : decode cX5_fill 13 = .ok (.ifCond .lt 10, 3) := by decide +kernel
theorem dX5_fill_16 : decode cX5_fill 16 = .ok (.iload_n 2, 1) := by decide +kernel
theorem dX5_fill_17 : decode cX5_fill 17 = .ok (.sipush 1000, 3) := by decide +kernel
theorem dX5_fill_20 : decode cX5_fill 20 = .ok (.if_icmp .le 6, 3) := by decide +kernel
theorem dX5_fill_23 : decode cX5_fill 23 = .ok (.bipush (-99), 2) := by decide +kernel
theorem dX5_fill_25 : decode cX5_fill 25 = .ok (.ireturn, 1) := by decide +kernel
theorem dX5_fill_26 : decode cX5_fill 26 = .ok (.aload_n 0, 1) := by decide +kernel
theorem dX5_fill_27 : decode cX5_fill 27 = .ok (.getfield 23, 3) := by decide +kernel
theorem dX5_fill_30 : decode cX5_fill 30 = .ok (.iload_n 1, 1) := by decide +kernel
theorem dX5_fill_31 : decode cX5_fill 31 = .ok (.aload_n 0, 1) := by decide +kernel
theorem dX5_fill_32 : decode cX5_fill 32 = .ok (.getfield 23, 3) := by decide +kernel
theorem dX5_fill_35 : decode cX5_fill 35 = .ok (.iload_n 1, 1) := by decide +kernel
theorem dX5_fill_36 : decode cX5_fill 36 = .ok (.iaload, 1) := by decide +kernel
theorem dX5_fill_37 : decode cX5_fill 37 = .ok (.iload_n 2, 1) := by decide +kernel
theorem dX5_fill_38 : decode cX5_fill 38 = .ok (.iadd, 1) := by decide +kernel
theorem dX5_fill_39 : decode cX5_fill 39 = .ok (.sipush 1000, 3) := by decide +kernel
theorem dX5_fill_42 : decode cX5_fill 42 = .ok (.if_icmp .le 9, 3) := by decide +kernel
theorem dX5_fill_45 : decode cX5_fill 45 = .ok (.sipush 1000, 3) := by decide +kernel
theorem dX5_fill_48 : decode cX5_fill 48 = .ok (.goto 11, 3) := by decide +kernel
theorem dX5_fill_51 : decode cX5_fill 51 = .ok (.aload_n 0, 1) := by decide +kernel
theorem dX5_fill_52 : decode cX5_fill 52 = .ok (.getfield 23, 3) := by decide +kernel
theorem dX5_fill_55 : decode cX5_fill 55 = .ok (.iload_n 1, 1) := by decide +kernel
theorem dX5_fill_56 : decode cX5_fill 56 = .ok (.iaload, 1) := by decide +kernel
theorem dX5_fill_57 : decode cX5_fill 57 = .ok (.iload_n 2, 1) := by decide +kernel
theorem dX5_fill_58 : decode cX5_fill 58 = .ok (.iadd, 1) := by decide +kernel
theorem dX5_fill_59 : decode cX5_fill 59 = .ok (.iastore, 1) := by decide +kernel
theorem dX5_fill_60 : decode cX5_fill 60 = .ok (.aload_n 0, 1) := by decide +kernel
theorem dX5_fill_61 : decode cX5_fill 61 = .ok (.getfield 23, 3) := by decide +kernel
theorem dX5_fill_64 : decode cX5_fill 64 = .ok (.iload_n 1, 1) := by decide +kernel
theorem dX5_fill_65 : decode cX5_fill 65 = .ok (.iaload, 1) := by decide +kernel
theorem dX5_fill_66 : decode cX5_fill 66 = .ok (.ireturn, 1) := by decide +kernel
set_option maxRecDepth 20000 in
theorem ggX5_scribe_X5_isScribe : GoodIn wsX5_scribe wsX5_isScribe := goodIn_r _ [8] (by decide +kernel) (by decide +kernel)
set_option maxRecDepth 20000 in
theorem gX5_scribe_X5_isScribe : GoodIn wsX5_scribe (va_wsS RX5 74 yX5_isScribe wsX5_isScribe) := goodIn_app (goodIn_of _ (by decide +kernel)) ggX5_scribe_X5_isScribe
theorem dX5_scribe_0 : decode cX5_scribe 0 = .ok (.aload_n 0, 1) := by decide +kernel
theorem dX5_scribe_1 : decode cX5_scribe 1 = .ok (.iconst 0, 1) := by decide +kernel
theorem dX5_scribe_2 : decode cX5_scribe 2 = .ok (.putfield 41, 3) := by decide +kernel
theorem dX5_scribe_5 : decode cX5_scribe 5 = .ok (.iload_n 1, 1) := by decide +kernel
theorem dX5_scribe_6 : decode cX5_scribe 6 = .ok (.invokestatic 74, 3) := by decide +kernel
theorem dX5_scribe_9 : decode cX5_scribe 9 = .ok (.ifCond .eq 12, 3) := by decide +kernel
theorem dX5_scribe_12 : decode cX5_scribe 12 = .ok (.iload_n 2, 1) := by decide +kernel
theorem dX5_scribe_13 : decode cX5_scribe 13 = .ok (.ifCond .lt 8, 3) := by decide +kernel
theorem dX5_scribe_16 : decode cX5_scribe 16 = .ok (.iload_n 2, 1) := by decide +kernel
theorem dX5_scribe_17 : decode cX5_scribe 17 = .ok (.iconst 2, 1) := by decide +kernel
theorem dX5_scribe_18 : decode cX5_scribe 18 = .ok (.if_icmp .le 6, 3) := by decide +kernel
theorem dX5_scribe_21 : decode cX5_scribe 21 = .ok (.bipush (-99), 2) := by decide +kernel
theorem dX5_scribe_23 : decode cX5_scribe 23 = .ok (.ireturn, 1) := by decide +kernel
theorem dX5_scribe_24 : decode cX5_scribe 24 = .ok (.iload_n 2, 1) := by decide +kernel
theorem dX5_scribe_25 : decode cX5_scribe 25 = .ok (.ifCond .ne 12, 3) := by decide +kernel
theorem dX5_scribe_28 : decode cX5_scribe 28 = .ok (.aload_n 0, 1) := by decide +kernel
theorem dX5_scribe_29 : decode cX5_scribe 29 = .ok (.getfield 23, 3) := by decide +kernel
theorem dX5_scribe_32 : decode cX5_scribe 32 = .ok (.iload_n 1, 1) := by decide +kernel
theorem dX5_scribe_33 : decode cX5_scribe 33 = .ok (.iaload, 1) := by decide +kernel
theorem dX5_scribe_34 : decode cX5_scribe 34 = .ok (.goto 23, 3) := by decide +kernel
theorem dX5_scribe_37 : decode cX5_scribe 37 = .ok (.iload_n 2, 1) := by decide +kernel
theorem dX5_scribe_38 : decode cX5_scribe 38 = .ok (.iconst 1, 1) := by decide +kernel
theorem dX5_scribe_39 : decode cX5_scribe 39 = .ok (.if_icmp .ne 12, 3) := by decide +kernel
theorem dX5_scribe_42 : decode cX5_scribe 42 = .ok (.aload_n 0, 1) := by decide +kernel
theorem dX5_scribe_43 : decode cX5_scribe 43 = .ok (.getfield 32, 3) := by decide +kernel
theorem dX5_scribe_46 : decode cX5_scribe 46 = .ok (.iload_n 1, 1) := by decide +kernel
theorem dX5_scribe_47 : decode cX5_scribe 47 = .ok (.iaload, 1) := by decide +kernel
theorem dX5_scribe_48 : decode cX5_scribe 48 = .ok (.goto 9, 3) := by decide +kernel
theorem dX5_scribe_51 : decode cX5_scribe 51 = .ok (.aload_n 0, 1) := by decide +kernel
theorem dX5_scribe_52 : decode cX5_scribe 52 = .ok (.getfield 26, 3) := by decide +kernel
theorem dX5_scribe_55 : decode cX5_scribe 55 = .ok (.iload_n 1, 1) := by decide +kernel
theorem dX5_scribe_56 : decode cX5_scribe 56 = .ok (.iaload, 1) := by decide +kernel
theorem dX5_scribe_57 : decode cX5_scribe 57 = .ok (.ireturn, 1) := by decide +kernel
set_option maxRecDepth 20000 in
theorem ggX5_sign_X5_isDesk : GoodIn wsX5_sign wsX5_isDesk := goodIn_r _ [8] (by decide +kernel) (by decide +kernel)
set_option maxRecDepth 20000 in
theorem gX5_sign_X5_isDesk : GoodIn wsX5_sign (va_wsS RX5 45 yX5_isDesk wsX5_isDesk) := goodIn_app (goodIn_of _ (by decide +kernel)) ggX5_sign_X5_isDesk
theorem dX5_sign_0 : decode cX5_sign 0 = .ok (.aload_n 0, 1) := by decide +kernel
theorem dX5_sign_1 : decode cX5_sign 1 = .ok (.iconst 0, 1) := by decide +kernel
theorem dX5_sign_2 : decode cX5_sign 2 = .ok (.putfield 41, 3) := by decide +kernel
theorem dX5_sign_5 : decode cX5_sign 5 = .ok (.aload_n 0, 1) := by decide +kernel
theorem dX5_sign_6 : decode cX5_sign 6 = .ok (.iload_n 1, 1) := by decide +kernel
theorem dX5_sign_7 : decode cX5_sign 7 = .ok (.invokestatic 45, 3) := by decide +kernel
theorem dX5_sign_10 : decode cX5_sign 10 = .ok (.ifCond .eq 12, 3) := by decide +kernel
theorem dX5_sign_13 : decode cX5_sign 13 = .ok (.aload_n 0, 1) := by decide +kernel
theorem dX5_sign_14 : decode cX5_sign 14 = .ok (.getfield 7, 3) := by decide +kernel
theorem dX5_sign_17 : decode cX5_sign 17 = .ok (.iload_n 1, 1) := by decide +kernel
theorem dX5_sign_18 : decode cX5_sign 18 = .ok (.iaload, 1) := by decide +kernel
theorem dX5_sign_19 : decode cX5_sign 19 = .ok (.ifCond .ge 7, 3) := by decide +kernel
theorem dX5_sign_22 : decode cX5_sign 22 = .ok (.iconst 1, 1) := by decide +kernel
theorem dX5_sign_23 : decode cX5_sign 23 = .ok (.goto 27, 3) := by decide +kernel
theorem dX5_sign_26 : decode cX5_sign 26 = .ok (.iload_n 2, 1) := by decide +kernel
theorem dX5_sign_27 : decode cX5_sign 27 = .ok (.ifCond .lt 18, 3) := by decide +kernel
theorem dX5_sign_30 : decode cX5_sign 30 = .ok (.iload_n 2, 1) := by decide +kernel
theorem dX5_sign_31 : decode cX5_sign 31 = .ok (.aload_n 0, 1) := by decide +kernel
theorem dX5_sign_32 : decode cX5_sign 32 = .ok (.getfield 16, 3) := by decide +kernel
theorem dX5_sign_35 : decode cX5_sign 35 = .ok (.aload_n 0, 1) := by decide +kernel
theorem dX5_sign_36 : decode cX5_sign 36 = .ok (.getfield 7, 3) := by decide +kernel
theorem dX5_sign_39 : decode cX5_sign 39 = .ok (.iload_n 1, 1) := by decide +kernel
theorem dX5_sign_40 : decode cX5_sign 40 = .ok (.iaload, 1) := by decide +kernel
theorem dX5_sign_41 : decode cX5_sign 41 = .ok (.iaload, 1) := by decide +kernel
theorem dX5_sign_42 : decode cX5_sign 42 = .ok (.if_icmp .lt 7, 3) := by decide +kernel
theorem dX5_sign_45 : decode cX5_sign 45 = .ok (.iconst 2, 1) := by decide +kernel
theorem dX5_sign_46 : decode cX5_sign 46 = .ok (.goto 4, 3) := by decide +kernel
theorem dX5_sign_49 : decode cX5_sign 49 = .ok (.iconst 0, 1) := by decide +kernel
theorem dX5_sign_50 : decode cX5_sign 50 = .ok (.putfield 41, 3) := by decide +kernel
theorem dX5_sign_53 : decode cX5_sign 53 = .ok (.aload_n 0, 1) := by decide +kernel
theorem dX5_sign_54 : decode cX5_sign 54 = .ok (.getfield 41, 3) := by decide +kernel
theorem dX5_sign_57 : decode cX5_sign 57 = .ok (.ifCond .le 7, 3) := by decide +kernel
theorem dX5_sign_60 : decode cX5_sign 60 = .ok (.lconst 0, 1) := by decide +kernel
theorem dX5_sign_61 : decode cX5_sign 61 = .ok (.goto 19, 3) := by decide +kernel
theorem dX5_sign_64 : decode cX5_sign 64 = .ok (.aload_n 0, 1) := by decide +kernel
theorem dX5_sign_65 : decode cX5_sign 65 = .ok (.getfield 19, 3) := by decide +kernel
theorem dX5_sign_68 : decode cX5_sign 68 = .ok (.bipush 40, 2) := by decide +kernel
theorem dX5_sign_70 : decode cX5_sign 70 = .ok (.aload_n 0, 1) := by decide +kernel
theorem dX5_sign_71 : decode cX5_sign 71 = .ok (.getfield 7, 3) := by decide +kernel
theorem dX5_sign_74 : decode cX5_sign 74 = .ok (.iload_n 1, 1) := by decide +kernel
theorem dX5_sign_75 : decode cX5_sign 75 = .ok (.iaload, 1) := by decide +kernel
theorem dX5_sign_76 : decode cX5_sign 76 = .ok (.imul, 1) := by decide +kernel
theorem dX5_sign_77 : decode cX5_sign 77 = .ok (.iload_n 2, 1) := by decide +kernel
theorem dX5_sign_78 : decode cX5_sign 78 = .ok (.iadd, 1) := by decide +kernel
theorem dX5_sign_79 : decode cX5_sign 79 = .ok (.laload, 1) := by decide +kernel
theorem dX5_sign_80 : decode cX5_sign 80 = .ok (.lreturn, 1) := by decide +kernel
set_option maxRecDepth 20000 in
theorem ggX5_book_X5_isDesk : GoodIn wsX5_book wsX5_isDesk := goodIn_r _ [8] (by decide +kernel) (by decide +kernel)
set_option maxRecDepth 20000 in
theorem gX5_book_X5_isDesk : GoodIn wsX5_book (va_wsS RX5 45 yX5_isDesk wsX5_isDesk) := goodIn_app (goodIn_of _ (by decide +kernel)) ggX5_book_X5_isDesk
theorem dX5_book_0 : decode cX5_book 0 = .ok (.aload_n 0, 1) := by decide +kernel
theorem dX5_book_1 : decode cX5_book 1 = .ok (.iconst 0, 1) := by decide +kernel
theorem dX5_book_2 : decode cX5_book 2 = .ok (.putfield 41, 3) := by decide +kernel
theorem dX5_book_5 : decode cX5_book 5 = .ok (.iload_n 1, 1) := by decide +kernel
theorem dX5_book_6 : decode cX5_book 6 = .ok (.invokestatic 45, 3) := by decide +kernel
theorem dX5_book_9 : decode cX5_book 9 = .ok (.ifCond .eq 12, 3) := by decide +kernel
theorem dX5_book_12 : decode cX5_book 12 = .ok (.iload_n 2, 1) := by decide +kernel
theorem dX5_book_13 : decode cX5_book 13 = .ok (.ifCond .lt 8, 3) := by decide +kernel
theorem dX5_book_16 : decode cX5_book 16 = .ok (.iload_n 2, 1) := by decide +kernel
theorem dX5_book_17 : decode cX5_book 17 = .ok (.iconst 1, 1) := by decide +kernel
theorem dX5_book_18 : decode cX5_book 18 = .ok (.if_icmp .le 6, 3) := by decide +kernel
theorem dX5_book_21 : decode cX5_book 21 = .ok (.bipush (-99), 2) := by decide +kernel
theorem dX5_book_23 : decode cX5_book 23 = .ok (.ireturn, 1) := by decide +kernel
theorem dX5_book_24 : decode cX5_book 24 = .ok (.aload_n 0, 1) := by decide +kernel
theorem dX5_book_25 : decode cX5_book 25 = .ok (.getfield 7, 3) := by decide +kernel
theorem dX5_book_28 : decode cX5_book 28 = .ok (.iload_n 1, 1) := by decide +kernel
theorem dX5_book_29 : decode cX5_book 29 = .ok (.iaload, 1) := by decide +kernel
theorem dX5_book_30 : decode cX5_book 30 = .ok (.ifCond .ge 12, 3) := by decide +kernel
theorem dX5_book_33 : decode cX5_book 33 = .ok (.aload_n 0, 1) := by decide +kernel
theorem dX5_book_34 : decode cX5_book 34 = .ok (.getfield 7, 3) := by decide +kernel
theorem dX5_book_37 : decode cX5_book 37 = .ok (.iload_n 1, 1) := by decide +kernel
theorem dX5_book_38 : decode cX5_book 38 = .ok (.iaload, 1) := by decide +kernel
theorem dX5_book_39 : decode cX5_book 39 = .ok (.goto 32, 3) := by decide +kernel
theorem dX5_book_42 : decode cX5_book 42 = .ok (.iload_n 2, 1) := by decide +kernel
theorem dX5_book_43 : decode cX5_book 43 = .ok (.ifCond .ne 17, 3) := by decide +kernel
theorem dX5_book_46 : decode cX5_book 46 = .ok (.aload_n 0, 1) := by decide +kernel
theorem dX5_book_47 : decode cX5_book 47 = .ok (.getfield 13, 3) := by decide +kernel
theorem dX5_book_50 : decode cX5_book 50 = .ok (.aload_n 0, 1) := by decide +kernel
theorem dX5_book_51 : decode cX5_book 51 = .ok (.getfield 7, 3) := by decide +kernel
theorem dX5_book_54 : decode cX5_book 54 = .ok (.iload_n 1, 1) := by decide +kernel
theorem dX5_book_55 : decode cX5_book 55 = .ok (.iaload, 1) := by decide +kernel
theorem dX5_book_56 : decode cX5_book 56 = .ok (.iaload, 1) := by decide +kernel
theorem dX5_book_57 : decode cX5_book 57 = .ok (.goto 14, 3) := by decide +kernel
theorem dX5_book_60 : decode cX5_book 60 = .ok (.aload_n 0, 1) := by decide +kernel
theorem dX5_book_61 : decode cX5_book 61 = .ok (.getfield 16, 3) := by decide +kernel
theorem dX5_book_64 : decode cX5_book 64 = .ok (.aload_n 0, 1) := by decide +kernel
theorem dX5_book_65 : decode cX5_book 65 = .ok (.getfield 7, 3) := by decide +kernel
theorem dX5_book_68 : decode cX5_book 68 = .ok (.iload_n 1, 1) := by decide +kernel
theorem dX5_book_69 : decode cX5_book 69 = .ok (.iaload, 1) := by decide +kernel
theorem dX5_book_70 : decode cX5_book 70 = .ok (.iaload, 1) := by decide +kernel
theorem dX5_book_71 : decode cX5_book 71 = .ok (.ireturn, 1) := by decide +kernel
set_option maxRecDepth 20000 in
theorem ggX5_differ_X5_isDesk : GoodIn wsX5_differ wsX5_isDesk := goodIn_r _ [8] (by decide +kernel) (by decide +kernel)
set_option maxRecDepth 20000 in
theorem gX5_differ_X5_isDesk : GoodIn wsX5_differ (va_wsS RX5 45 yX5_isDesk wsX5_isDesk) := goodIn_app (goodIn_of _ (by decide +kernel)) ggX5_differ_X5_isDesk
set_option maxRecDepth 20000 in
theorem ggX5_differ_X5_unlike : GoodIn wsX5_differ wsX5_unlike := goodIn_r _ [12, 2, 13, 14, 15, 16, 17, 18, 19, 20, 21, 22, 23, 24] (by decide +kernel) (by decide +kernel)
set_option maxRecDepth 20000 in
theorem gX5_differ_X5_unlike : GoodIn wsX5_differ (wsV RX5 70 RX5 yX5_unlike wsX5_unlike) := goodIn_app (goodIn_of _ (by decide +kernel)) ggX5_differ_X5_unlike
theorem dX5_differ_0 : decode cX5_differ 0 = .ok (.aload_n 0, 1) := by decide +kernel
theorem dX5_differ_1 : decode cX5_differ 1 = .ok (.iconst 0, 1) := by decide +kernel
theorem dX5_differ_2 : decode cX5_differ 2 = .ok (.putfield 41, 3) := by decide +kernel
theorem dX5_differ_5 : decode cX5_differ 5 = .ok (.iload_n 1, 1) := by decide +kernel
theorem dX5_differ_6 : decode cX5_differ 6 = .ok (.invokestatic 45, 3) := by decide +kernel
theorem dX5_differ_9 : decode cX5_differ 9 = .ok (.ifCond .eq 10, 3) := by decide +kernel
theorem dX5_differ_12 : decode cX5_differ 12 = .ok (.iload_n 2, 1) := by decide +kernel
theorem dX5_differ_13 : decode cX5_differ 13 = .ok (.invokestatic 45, 3) := by decide +kernel
theorem dX5_differ_16 : decode cX5_differ 16 = .ok (.ifCond .ne 6, 3) := by decide +kernel
theorem dX5_differ_19 : decode cX5_differ 19 = .ok (.bipush (-99), 2) := by decide +kernel
theorem dX5_differ_21 : decode cX5_differ 21 = .ok (.ireturn, 1) := by decide +kernel
theorem dX5_differ_22 : decode cX5_differ 22 = .ok (.aload_n 0, 1) := by decide +kernel
theorem dX5_differ_23 : decode cX5_differ 23 = .ok (.iload_n 1, 1) := by decide +kernel
theorem dX5_differ_24 : decode cX5_differ 24 = .ok (.iload_n 2, 1) := by decide +kernel
theorem dX5_differ_25 : decode cX5_differ 25 = .ok (.invokevirtual 70, 3) := by decide +kernel
theorem dX5_differ_28 : decode cX5_differ 28 = .ok (.istore_n 3, 1) := by decide +kernel
theorem dX5_differ_29 : decode cX5_differ 29 = .ok (.iload_n 3, 1) := by decide +kernel
theorem dX5_differ_30 : decode cX5_differ 30 = .ok (.ifCond .eq 5, 3) := by decide +kernel
theorem dX5_differ_33 : decode cX5_differ 33 = .ok (.iload_n 3, 1) := by decide +kernel
theorem dX5_differ_34 : decode cX5_differ 34 = .ok (.ireturn, 1) := by decide +kernel
theorem dX5_differ_35 : decode cX5_differ 35 = .ok (.aload_n 0, 1) := by decide +kernel
theorem dX5_differ_36 : decode cX5_differ 36 = .ok (.getfield 7, 3) := by decide +kernel
theorem dX5_differ_39 : decode cX5_differ 39 = .ok (.iload_n 1, 1) := by decide +kernel
theorem dX5_differ_40 : decode cX5_differ 40 = .ok (.iaload, 1) := by decide +kernel
theorem dX5_differ_41 : decode cX5_differ 41 = .ok (.istore 4, 2) := by decide +kernel
theorem dX5_differ_43 : decode cX5_differ 43 = .ok (.aload_n 0, 1) := by decide +kernel
theorem dX5_differ_44 : decode cX5_differ 44 = .ok (.getfield 7, 3) := by decide +kernel
theorem dX5_differ_47 : decode cX5_differ 47 = .ok (.iload_n 2, 1) := by decide +kernel
theorem dX5_differ_48 : decode cX5_differ 48 = .ok (.iaload, 1) := by decide +kernel
theorem dX5_differ_49 : decode cX5_differ 49 = .ok (.istore 5, 2) := by decide +kernel
theorem dX5_differ_51 : decode cX5_differ 51 = .ok (.aload_n 0, 1) := by decide +kernel
theorem dX5_differ_52 : decode cX5_differ 52 = .ok (.getfield 16, 3) := by decide +kernel
theorem dX5_differ_55 : decode cX5_differ 55 = .ok (.iload 4, 2) := by decide +kernel
theorem dX5_differ_57 : decode cX5_differ 57 = .ok (.iaload, 1) := by decide +kernel
theorem dX5_differ_58 : decode cX5_differ 58 = .ok (.aload_n 0, 1) := by decide +kernel
theorem dX5_differ_59 : decode cX5_differ 59 = .ok (.getfield 16, 3) := by decide +kernel
theorem dX5_differ_62 : decode cX5_differ 62 = .ok (.iload 5, 2) := by decide +kernel
theorem dX5_differ_64 : decode cX5_differ 64 = .ok (.iaload, 1) := by decide +kernel
theorem dX5_differ_65 : decode cX5_differ 65 = .ok (.if_icmp .ge 13, 3) := by decide +kernel
theorem dX5_differ_68 : decode cX5_differ 68 = .ok (.aload_n 0, 1) := by decide +kernel
theorem dX5_differ_69 : decode cX5_differ 69 = .ok (.getfield 16, 3) := by decide +kernel
theorem dX5_differ_72 : decode cX5_differ 72 = .ok (.iload 4, 2) := by decide +kernel
theorem dX5_differ_74 : decode cX5_differ 74 = .ok (.iaload, 1) := by decide +kernel
theorem dX5_differ_75 : decode cX5_differ 75 = .ok (.goto 10, 3) := by decide +kernel
theorem dX5_differ_78 : decode cX5_differ 78 = .ok (.aload_n 0, 1) := by decide +kernel
theorem dX5_differ_79 : decode cX5_differ 79 = .ok (.getfield 16, 3) := by decide +kernel
theorem dX5_differ_82 : decode cX5_differ 82 = .ok (.iload 5, 2) := by decide +kernel
theorem dX5_differ_84 : decode cX5_differ 84 = .ok (.iaload, 1) := by decide +kernel
theorem dX5_differ_85 : decode cX5_differ 85 = .ok (.istore 6, 2) := by decide +kernel
theorem dX5_differ_87 : decode cX5_differ 87 = .ok (.iconst 0, 1) := by decide +kernel
theorem dX5_differ_88 : decode cX5_differ 88 = .ok (.istore 7, 2) := by decide +kernel
theorem dX5_differ_90 : decode cX5_differ 90 = .ok (.iload 7, 2) := by decide +kernel
theorem dX5_differ_92 : decode cX5_differ 92 = .ok (.iload 6, 2) := by decide +kernel
theorem dX5_differ_94 : decode cX5_differ 94 = .ok (.if_icmp .ge 42, 3) := by decide +kernel
theorem dX5_differ_97 : decode cX5_differ 97 = .ok (.aload_n 0, 1) := by decide +kernel
theorem dX5_differ_98 : decode cX5_differ 98 = .ok (.getfield 19, 3) := by decide +kernel
theorem dX5_differ_101 : decode cX5_differ 101 = .ok (.bipush 40, 2) := by decide +kernel
theorem dX5_differ_103 : decode cX5_differ 103 = .ok (.iload 4, 2) := by decide +kernel
theorem dX5_differ_105 : decode cX5_differ 105 = .ok (.imul, 1) := by decide +kernel
theorem dX5_differ_106 : decode cX5_differ 106 = .ok (.iload 7, 2) := by decide +kernel
theorem dX5_differ_108 : decode cX5_differ 108 = .ok (.iadd, 1) := by decide +kernel
theorem dX5_differ_109 : decode cX5_differ 109 = .ok (.laload, 1) := by decide +kernel
theorem dX5_differ_110 : decode cX5_differ 110 = .ok (.aload_n 0, 1) := by decide +kernel
theorem dX5_differ_111 : decode cX5_differ 111 = .ok (.getfield 19, 3) := by decide +kernel
theorem dX5_differ_114 : decode cX5_differ 114 = .ok (.bipush 40, 2) := by decide +kernel
theorem dX5_differ_116 : decode cX5_differ 116 = .ok (.iload 5, 2) := by decide +kernel
theorem dX5_differ_118 : decode cX5_differ 118 = .ok (.imul, 1) := by decide +kernel
theorem dX5_differ_119 : decode cX5_differ 119 = .ok (.iload 7, 2) := by decide +kernel
theorem dX5_differ_121 : decode cX5_differ 121 = .ok (.iadd, 1) := by decide +kernel
theorem dX5_differ_122 : decode cX5_differ 122 = .ok (.laload, 1) := by decide +kernel
theorem dX5_differ_123 : decode cX5_differ 123 = .ok (.lcmp, 1) := by decide +kernel
theorem dX5_differ_124 : decode cX5_differ 124 = .ok (.ifCond .eq 6, 3) := by decide +kernel
theorem dX5_differ_127 : decode cX5_differ 127 = .ok (.iload 7, 2) := by decide +kernel
theorem dX5_differ_129 : decode cX5_differ 129 = .ok (.ireturn, 1) := by decide +kernel
theorem dX5_differ_130 : decode cX5_differ 130 = .ok (.iinc 7 1, 3) := by decide +kernel
theorem dX5_differ_133 : decode cX5_differ 133 = .ok (.goto (-43), 3) := by decide +kernel
theorem dX5_differ_136 : decode cX5_differ 136 = .ok (.aload_n 0, 1) := by decide +kernel
theorem dX5_differ_137 : decode cX5_differ 137 = .ok (.getfield 16, 3) := by decide +kernel
theorem dX5_differ_140 : decode cX5_differ 140 = .ok (.iload 4, 2) := by decide +kernel
theorem dX5_differ_142 : decode cX5_differ 142 = .ok (.iaload, 1) := by decide +kernel
theorem dX5_differ_143 : decode cX5_differ 143 = .ok (.aload_n 0, 1) := by decide +kernel
theorem dX5_differ_144 : decode cX5_differ 144 = .ok (.getfield 16, 3) := by decide +kernel
theorem dX5_differ_147 : decode cX5_differ 147 = .ok (.iload 5, 2) := by decide +kernel
theorem dX5_differ_149 : decode cX5_differ 149 = .ok (.iaload, 1) := by decide +kernel
theorem dX5_differ_150 : decode cX5_differ 150 = .ok (.if_icmp .ne 8, 3) := by decide +kernel
theorem dX5_differ_153 : decode cX5_differ 153 = .ok (.bipush (-60), 2) := by decide +kernel
theorem dX5_differ_155 : decode cX5_differ 155 = .ok (.goto 5, 3) := by decide +kernel
theorem dX5_differ_158 : decode cX5_differ 158 = .ok (.iload 6, 2) := by decide +kernel
theorem dX5_differ_160 : decode cX5_differ 160 = .ok (.ireturn, 1) := by decide +kernel
theorem dX5_chronicle_0 : decode cX5_chronicle 0 = .ok (.aload_n 0, 1) := by decide +kernel
theorem dX5_chronicle_1 : decode cX5_chronicle 1 = .ok (.iconst 0, 1) := by decide +kernel
theorem dX5_chronicle_2 : decode cX5_chronicle 2 = .ok (.putfield 41, 3) := by decide +kernel
theorem dX5_chronicle_5 : decode cX5_chronicle 5 = .ok (.iload_n 1, 1) := by decide +kernel
theorem dX5_chronicle_6 : decode cX5_chronicle 6 = .ok (.ifCond .lt 28, 3) := by decide +kernel
theorem dX5_chronicle_9 : decode cX5_chronicle 9 = .ok (.iload_n 1, 1) := by decide +kernel
theorem dX5_chronicle_10 : decode cX5_chronicle 10 = .ok (.bipush 16, 2) := by decide +kernel
theorem dX5_chronicle_12 : decode cX5_chronicle 12 = .ok (.if_icmp .ge 22, 3) := by decide +kernel
theorem dX5_chronicle_15 : decode cX5_chronicle 15 = .ok (.iload_n 1, 1) := by decide +kernel
theorem dX5_chronicle_16 : decode cX5_chronicle 16 = .ok (.aload_n 0, 1) := by decide +kernel
theorem dX5_chronicle_17 : decode cX5_chronicle 17 = .ok (.getfield 38, 3) := by decide +kernel
theorem dX5_chronicle_20 : decode cX5_chronicle 20 = .ok (.iconst 0, 1) := by decide +kernel
theorem dX5_chronicle_21 : decode cX5_chronicle 21 = .ok (.iaload, 1) := by decide +kernel
theorem dX5_chronicle_22 : decode cX5_chronicle 22 = .ok (.if_icmp .ge 12, 3) := by decide +kernel
theorem dX5_chronicle_25 : decode cX5_chronicle 25 = .ok (.iload_n 2, 1) := by decide +kernel
theorem dX5_chronicle_26 : decode cX5_chronicle 26 = .ok (.ifCond .lt 8, 3) := by decide +kernel
theorem dX5_chronicle_29 : decode cX5_chronicle 29 = .ok (.iload_n 2, 1) := by decide +kernel
theorem dX5_chronicle_30 : decode cX5_chronicle 30 = .ok (.iconst 3, 1) := by decide +kernel
theorem dX5_chronicle_31 : decode cX5_chronicle 31 = .ok (.if_icmp .le 6, 3) := by decide +kernel
theorem dX5_chronicle_34 : decode cX5_chronicle 34 = .ok (.bipush (-99), 2) := by decide +kernel
theorem dX5_chronicle_36 : decode cX5_chronicle 36 = .ok (.ireturn, 1) := by decide +kernel
theorem dX5_chronicle_37 : decode cX5_chronicle 37 = .ok (.aload_n 0, 1) := by decide +kernel
theorem dX5_chronicle_38 : decode cX5_chronicle 38 = .ok (.getfield 35, 3) := by decide +kernel
theorem dX5_chronicle_41 : decode cX5_chronicle 41 = .ok (.iconst 4, 1) := by decide +kernel
theorem dX5_chronicle_42 : decode cX5_chronicle 42 = .ok (.aload_n 0, 1) := by decide +kernel
theorem dX5_chronicle_43 : decode cX5_chronicle 43 = .ok (.getfield 38, 3) := by decide +kernel
theorem dX5_chronicle_46 : decode cX5_chronicle 46 = .ok (.iconst 0, 1) := by decide +kernel
theorem dX5_chronicle_47 : decode cX5_chronicle 47 = .ok (.iaload, 1) := by decide +kernel
theorem dX5_chronicle_48 : decode cX5_chronicle 48 = .ok (.iconst 1, 1) := by decide +kernel
theorem dX5_chronicle_49 : decode cX5_chronicle 49 = .ok (.isub, 1) := by decide +kernel
theorem dX5_chronicle_50 : decode cX5_chronicle 50 = .ok (.iload_n 1, 1) := by decide +kernel
theorem dX5_chronicle_51 : decode cX5_chronicle 51 = .ok (.isub, 1) := by decide +kernel
theorem dX5_chronicle_52 : decode cX5_chronicle 52 = .ok (.bipush 16, 2) := by decide +kernel
theorem dX5_chronicle_54 : decode cX5_chronicle 54 = .ok (.irem, 1) := by decide +kernel
theorem dX5_chronicle_55 : decode cX5_chronicle 55 = .ok (.imul, 1) := by decide +kernel
theorem dX5_chronicle_56 : decode cX5_chronicle 56 = .ok (.iload_n 2, 1) := by decide +kernel
theorem dX5_chronicle_57 : decode cX5_chronicle 57 = .ok (.iadd, 1) := by decide +kernel
theorem dX5_chronicle_58 : decode cX5_chronicle 58 = .ok (.iaload, 1) := by decide +kernel
theorem dX5_chronicle_59 : decode cX5_chronicle 59 = .ok (.ireturn, 1) := by decide +kernel
theorem dX5_count_0 : decode cX5_count 0 = .ok (.aload_n 0, 1) := by decide +kernel
theorem dX5_count_1 : decode cX5_count 1 = .ok (.iconst 0, 1) := by decide +kernel
theorem dX5_count_2 : decode cX5_count 2 = .ok (.putfield 41, 3) := by decide +kernel
theorem dX5_count_5 : decode cX5_count 5 = .ok (.iload_n 1, 1) := by decide +kernel
theorem dX5_count_6 : decode cX5_count 6 = .ok (.ifCond .lt 9, 3) := by decide +kernel
theorem dX5_count_9 : decode cX5_count 9 = .ok (.iload_n 1, 1) := by decide +kernel
theorem dX5_count_10 : decode cX5_count 10 = .ok (.bipush 7, 2) := by decide +kernel
theorem dX5_count_12 : decode cX5_count 12 = .ok (.if_icmp .le 8, 3) := by decide +kernel
theorem dX5_count_15 : decode cX5_count 15 = .ok (.bipush (-99), 2) := by decide +kernel
theorem dX5_count_17 : decode cX5_count 17 = .ok (.goto 9, 3) := by decide +kernel
theorem dX5_count_20 : decode cX5_count 20 = .ok (.aload_n 0, 1) := by decide +kernel
theorem dX5_count_21 : decode cX5_count 21 = .ok (.getfield 38, 3) := by decide +kernel
theorem dX5_count_24 : decode cX5_count 24 = .ok (.iload_n 1, 1) := by decide +kernel
theorem dX5_count_25 : decode cX5_count 25 = .ok (.iaload, 1) := by decide +kernel
theorem dX5_count_26 : decode cX5_count 26 = .ok (.ireturn, 1) := by decide +kernel
theorem dJ9_floorMod_7cf53_0 : decode cJ9_floorMod_7cf53 0 = .ok (.iload_n 0, 1) := by decide +kernel
theorem dJ9_floorMod_7cf53_1 : decode cJ9_floorMod_7cf53 1 = .ok (.iload_n 1, 1) := by decide +kernel
theorem dJ9_floorMod_7cf53_2 : decode cJ9_floorMod_7cf53 2 = .ok (.irem, 1) := by decide +kernel
theorem dJ9_floorMod_7cf53_3 : decode cJ9_floorMod_7cf53 3 = .ok (.istore_n 2, 1) := by decide +kernel
theorem dJ9_floorMod_7cf53_4 : decode cJ9_floorMod_7cf53 4 = .ok (.iload_n 0, 1) := by decide +kernel
theorem dJ9_floorMod_7cf53_5 : decode cJ9_floorMod_7cf53 5 = .ok (.iload_n 1, 1) := by decide +kernel
theorem dJ9_floorMod_7cf53_6 : decode cJ9_floorMod_7cf53 6 = .ok (.ixor, 1) := by decide +kernel
theorem dJ9_floorMod_7cf53_7 : decode cJ9_floorMod_7cf53 7 = .ok (.ifCond .ge 11, 3) := by decide +kernel
theorem dJ9_floorMod_7cf53_10 : decode cJ9_floorMod_7cf53 10 = .ok (.iload_n 2, 1) := by decide +kernel
theorem dJ9_floorMod_7cf53_11 : decode cJ9_floorMod_7cf53 11 = .ok (.ifCond .eq 7, 3) := by decide +kernel
theorem dJ9_floorMod_7cf53_14 : decode cJ9_floorMod_7cf53 14 = .ok (.iload_n 2, 1) := by decide +kernel
theorem dJ9_floorMod_7cf53_15 : decode cJ9_floorMod_7cf53 15 = .ok (.iload_n 1, 1) := by decide +kernel
theorem dJ9_floorMod_7cf53_16 : decode cJ9_floorMod_7cf53 16 = .ok (.iadd, 1) := by decide +kernel
theorem dJ9_floorMod_7cf53_17 : decode cJ9_floorMod_7cf53 17 = .ok (.ireturn, 1) := by decide +kernel
theorem dJ9_floorMod_7cf53_18 : decode cJ9_floorMod_7cf53 18 = .ok (.iload_n 2, 1) := by decide +kernel
theorem dJ9_floorMod_7cf53_19 : decode cJ9_floorMod_7cf53 19 = .ok (.ireturn, 1) := by decide +kernel
theorem dJ9_min_7cf53_0 : decode cJ9_min_7cf53 0 = .ok (.iload_n 0, 1) := by decide +kernel
theorem dJ9_min_7cf53_1 : decode cJ9_min_7cf53 1 = .ok (.iload_n 1, 1) := by decide +kernel
theorem dJ9_min_7cf53_2 : decode cJ9_min_7cf53 2 = .ok (.if_icmp .gt 7, 3) := by decide +kernel
theorem dJ9_min_7cf53_5 : decode cJ9_min_7cf53 5 = .ok (.iload_n 0, 1) := by decide +kernel
theorem dJ9_min_7cf53_6 : decode cJ9_min_7cf53 6 = .ok (.goto 4, 3) := by decide +kernel
theorem dJ9_min_7cf53_9 : decode cJ9_min_7cf53 9 = .ok (.iload_n 1, 1) := by decide +kernel
theorem dJ9_min_7cf53_10 : decode cJ9_min_7cf53 10 = .ok (.ireturn, 1) := by decide +kernel
set_option maxRecDepth 20000 in
theorem ggL_sign_X4_sign : GoodIn wsL_sign wsX4_sign := goodIn_ca (goodIn_ca (goodIn_r _ [7, 8, 9, 10, 11, 12, 13, 14, 6, 15, 16, 17, 18, 19, 20, 21, 22, 23, 24, 25, 26, 27, 28, 29, 30, 31, 32, 33, 34, 35, 36, 37, 38, 39, 40, 41, 42, 43, 44, 45] (by decide +kernel) (by decide +kernel)) (goodIn_sub (fun _ h => List.mem_cons_of_mem _ (List.mem_append_left _ (List.mem_append_right _ h))) (by decide +kernel))) (goodIn_sub (fun _ h => List.mem_cons_of_mem _ (List.mem_append_right _ h)) (by decide +kernel))
set_option maxRecDepth 20000 in
theorem gL_sign_X4_sign : GoodIn wsL_sign (wsV RL 7 RX4 yX4_sign wsX4_sign) := goodIn_app (goodIn_of _ (by decide +kernel)) ggL_sign_X4_sign
theorem dL_sign_0 : decode cL_sign 0 = .ok (.aload_n 3, 1) := by decide +kernel
theorem dL_sign_1 : decode cL_sign 1 = .ok (.iconst 0, 1) := by decide +kernel
theorem dL_sign_2 : decode cL_sign 2 = .ok (.aload_n 0, 1) := by decide +kernel
theorem dL_sign_3 : decode cL_sign 3 = .ok (.iload_n 1, 1) := by decide +kernel
theorem dL_sign_4 : decode cL_sign 4 = .ok (.iload_n 2, 1) := by decide +kernel
theorem dL_sign_5 : decode cL_sign 5 = .ok (.invokevirtual 7, 3) := by decide +kernel
theorem dL_sign_8 : decode cL_sign 8 = .ok (.lastore, 1) := by decide +kernel
theorem dL_sign_9 : decode cL_sign 9 = .ok (.goto 11, 3) := by decide +kernel
theorem dL_sign_12 : decode cL_sign 12 = .ok (.astore 4, 2) := by decide +kernel
theorem dL_sign_14 : decode cL_sign 14 = .ok (.iconst 1, 1) := by decide +kernel
theorem dL_sign_15 : decode cL_sign 15 = .ok (.ireturn, 1) := by decide +kernel
theorem dL_sign_16 : decode cL_sign 16 = .ok (.astore 4, 2) := by decide +kernel
theorem dL_sign_18 : decode cL_sign 18 = .ok (.iconst 2, 1) := by decide +kernel
theorem dL_sign_19 : decode cL_sign 19 = .ok (.ireturn, 1) := by decide +kernel
theorem dL_sign_20 : decode cL_sign 20 = .ok (.iconst 0, 1) := by decide +kernel
theorem dL_sign_21 : decode cL_sign 21 = .ok (.ireturn, 1) := by decide +kernel
set_option maxRecDepth 20000 in
theorem ggL_law_X4_init : GoodIn wsL_law wsX4_init := goodIn_r _ [10, 11, 12, 13, 14, 15, 16, 17, 18, 19, 20, 21, 22, 23, 24, 25, 26, 27, 28, 29, 30, 31, 32, 33, 34, 6, 35, 36, 37, 38, 39, 40, 41, 42, 43, 44, 45, 46, 47, 48, 49, 50, 51, 411, 412, 413, 394, 395, 396, 397, 398, 399, 414, 415, 416, 417, 418, 419, 420, 421, 422, 423] (by decide +kernel) (by decide +kernel)
set_option maxRecDepth 20000 in
theorem gL_law_X4_init : GoodIn wsL_law (wsX4_init) := ggL_law_X4_init
set_option maxRecDepth 20000 in
theorem ggL_law_X5_init : GoodIn wsL_law wsX5_init := goodIn_r _ [54, 55, 12, 13, 28, 56, 57, 58, 6, 59, 60, 61, 62, 63, 64, 65, 400, 401, 402, 403, 404, 405, 406, 407, 408, 409, 410] (by decide +kernel) (by decide +kernel)
set_option maxRecDepth 20000 in
theorem gL_law_X5_init : GoodIn wsL_law (wsX5_init) := ggL_law_X5_init
set_option maxRecDepth 20000 in
theorem ggL_law_X4_bind : GoodIn wsL_law wsX4_bind := goodIn_r _ [69, 29, 14, 15, 16, 70, 71, 2, 72, 30, 31, 32, 33, 12, 13, 34, 6, 35, 28, 36, 73, 74, 75, 76, 19, 394, 395, 396, 397, 398, 399, 411, 412, 413] (by decide +kernel) (by decide +kernel)
set_option maxRecDepth 20000 in
theorem gL_law_X4_bind : GoodIn wsL_law (wsV RL 21 RX4 yX4_bind wsX4_bind) := goodIn_app (goodIn_of _ (by decide +kernel)) ggL_law_X4_bind
set_option maxRecDepth 20000 in
theorem ggL_law_X5_bind : GoodIn wsL_law wsX5_bind := goodIn_r _ [80, 81, 56, 57, 58, 59, 65, 82, 83, 5, 84, 85, 86, 87, 88, 400, 401, 402, 403, 404, 405, 406, 407, 408, 409, 410] (by decide +kernel) (by decide +kernel)
set_option maxRecDepth 20000 in
theorem gL_law_X5_bind : GoodIn wsL_law (wsV RL 25 RX5 yX5_bind wsX5_bind) := goodIn_app (goodIn_of _ (by decide +kernel)) ggL_law_X5_bind
set_option maxRecDepth 20000 in
theorem ggL_law_X4_stone : GoodIn wsL_law wsX4_stone := goodIn_r _ [92, 18, 73, 74, 75, 2, 76, 19, 70, 71, 72, 394, 395, 396, 397, 398, 399] (by decide +kernel) (by decide +kernel)
set_option maxRecDepth 20000 in
theorem gL_law_X4_stone : GoodIn wsL_law (wsV RL 26 RX4 yX4_stone wsX4_stone) := goodIn_app (goodIn_of _ (by decide +kernel)) ggL_law_X4_stone
set_option maxRecDepth 20000 in
theorem ggL_law_X5_stone : GoodIn wsL_law wsX5_stone := goodIn_r _ [96, 81, 56, 82, 83, 5, 84, 400, 401, 402, 403, 404, 405, 406, 407, 408, 409, 410] (by decide +kernel) (by decide +kernel)
set_option maxRecDepth 20000 in
theorem gL_law_X5_stone : GoodIn wsL_law (wsV RL 30 RX5 yX5_stone wsX5_stone) := goodIn_app (goodIn_of _ (by decide +kernel)) ggL_law_X5_stone
set_option maxRecDepth 20000 in
theorem ggL_law_X4_share : GoodIn wsL_law wsX4_share := goodIn_r _ [100, 19, 70, 71, 2, 72, 73, 74, 75, 76, 394, 395, 396, 397, 398, 399] (by decide +kernel) (by decide +kernel)
set_option maxRecDepth 20000 in
theorem gL_law_X4_share : GoodIn wsL_law (wsV RL 31 RX4 yX4_share wsX4_share) := goodIn_app (goodIn_of _ (by decide +kernel)) ggL_law_X4_share
set_option maxRecDepth 20000 in
theorem ggL_law_X5_share : GoodIn wsL_law wsX5_share := goodIn_r _ [104, 81, 56, 82, 83, 5, 84, 400, 401, 402, 403, 404, 405, 406, 407, 408, 409, 410] (by decide +kernel) (by decide +kernel)
set_option maxRecDepth 20000 in
theorem gL_law_X5_share : GoodIn wsL_law (wsV RL 35 RX5 yX5_share wsX5_share) := goodIn_app (goodIn_of _ (by decide +kernel)) ggL_law_X5_share
set_option maxRecDepth 20000 in
theorem ggL_law_X4_clear : GoodIn wsL_law wsX4_clear := goodIn_r _ [108, 17, 73, 74, 75, 2, 76, 19, 70, 71, 72, 394, 395, 396, 397, 398, 399] (by decide +kernel) (by decide +kernel)
set_option maxRecDepth 20000 in
theorem gL_law_X4_clear : GoodIn wsL_law (wsV RL 36 RX4 yX4_clear wsX4_clear) := goodIn_app (goodIn_of _ (by decide +kernel)) ggL_law_X4_clear
set_option maxRecDepth 20000 in
theorem ggL_law_X5_clear : GoodIn wsL_law wsX5_clear := goodIn_r _ [112, 81, 56, 82, 83, 5, 84, 400, 401, 402, 403, 404, 405, 406, 407, 408, 409, 410] (by decide +kernel) (by decide +kernel)
set_option maxRecDepth 20000 in
theorem gL_law_X5_clear : GoodIn wsL_law (wsV RL 39 RX5 yX5_clear wsX5_clear) := goodIn_app (goodIn_of _ (by decide +kernel)) ggL_law_X5_clear
set_option maxRecDepth 20000 in
theorem ggL_law_X4_write : GoodIn wsL_law wsX4_write := goodIn_r _ [116, 19, 117, 118, 70, 71, 2, 72, 119, 120, 121, 16, 122, 34, 123, 124, 125, 126, 127, 128, 129, 130, 35, 131, 132, 133, 134, 36, 135, 136, 137, 138, 139, 140, 141, 142, 394, 395, 396, 397, 398, 399, 411, 412, 413] (by decide +kernel) (by decide +kernel)
set_option maxRecDepth 20000 in
theorem gL_law_X4_write : GoodIn wsL_law (wsV RL 42 RX4 yX4_write wsX4_write) := goodIn_app (goodIn_of _ (by decide +kernel)) ggL_law_X4_write
set_option maxRecDepth 20000 in
theorem ggL_law_X5_write : GoodIn wsL_law wsX5_write := goodIn_r _ [146, 81, 56, 58, 57, 147, 59, 82, 83, 5, 84, 148, 149, 150, 151, 152, 153, 154, 155, 156, 157, 158, 159, 160, 400, 401, 402, 403, 404, 405, 406, 407, 408, 409, 410] (by decide +kernel) (by decide +kernel)
set_option maxRecDepth 20000 in
theorem gL_law_X5_write : GoodIn wsL_law (wsV RL 46 RX5 yX5_write wsX5_write) := goodIn_app (goodIn_of _ (by decide +kernel)) ggL_law_X5_write
set_option maxRecDepth 20000 in
theorem ggL_law_X4_copy : GoodIn wsL_law wsX4_copy := goodIn_r _ [164, 165, 166, 167, 168, 169, 170, 171, 12, 13, 172, 173, 174, 175, 176, 177, 178, 179, 180, 2, 181, 21, 182, 183, 184, 19, 185, 186, 29, 27, 187, 188, 189, 190, 191, 192, 70, 71, 72, 193, 194, 195, 196, 197, 198, 199, 200, 117, 201, 202, 203, 16, 204, 34, 205, 124, 125, 126, 206, 120, 121, 122, 207, 208, 209, 210, 35, 211, 212, 213, 214, 36, 135, 136, 137, 138, 215, 216, 217, 218, 219, 220, 221, 222, 223, 224, 225, 226, 227, 228, 23, 229, 41, 230, 231, 232, 233, 234, 235, 236, 26, 237, 48, 238, 239, 49, 240, 50, 241, 51, 242, 243, 244, 245, 246, 424, 425, 426, 427, 428, 429, 394, 395, 396, 397, 398, 399, 414, 415, 416, 417, 411, 412, 413, 418, 419, 420, 421, 422, 423] (by decide +kernel) (by decide +kernel)
set_option maxRecDepth 20000 in
theorem gL_law_X4_copy : GoodIn wsL_law (wsV RL 47 RX4 yX4_copy wsX4_copy) := goodIn_app (goodIn_of _ (by decide +kernel)) ggL_law_X4_copy
set_option maxRecDepth 20000 in
theorem ggL_law_X5_copy : GoodIn wsL_law wsX5_copy := goodIn_r _ [250, 81, 60, 61, 65, 64, 251, 252, 5, 253, 82, 83, 84, 254, 255, 256, 257, 56, 58, 59, 258, 259, 260, 261, 57, 148, 149, 150, 151, 156, 157, 158, 159, 160, 400, 401, 402, 403, 404, 405, 406, 407, 408, 409, 410] (by decide +kernel) (by decide +kernel)
set_option maxRecDepth 20000 in
theorem gL_law_X5_copy : GoodIn wsL_law (wsV RL 51 RX5 yX5_copy wsX5_copy) := goodIn_app (goodIn_of _ (by decide +kernel)) ggL_law_X5_copy
set_option maxRecDepth 20000 in
theorem ggL_law_X4_order : GoodIn wsL_law wsX4_order := goodIn_r _ [265, 165, 166, 167, 21, 168, 169, 170, 171, 12, 13, 172, 173, 174, 175, 176, 177, 187, 188, 2, 189, 182, 185, 186, 190, 191, 192, 70, 71, 72, 266, 267, 268, 23, 269, 270, 43, 424, 425, 426, 427, 428, 429, 394, 395, 396, 397, 398, 399, 414, 415, 416, 417] (by decide +kernel) (by decide +kernel)
set_option maxRecDepth 20000 in
theorem gL_law_X4_order : GoodIn wsL_law (wsV RL 52 RX4 yX4_order wsX4_order) := goodIn_app (goodIn_of _ (by decide +kernel)) ggL_law_X4_order
set_option maxRecDepth 20000 in
theorem ggL_law_X5_order : GoodIn wsL_law wsX5_order := goodIn_r _ [274, 81, 63, 62, 251, 252, 5, 253, 82, 83, 84, 400, 401, 402, 403, 404, 405, 406, 407, 408, 409, 410] (by decide +kernel) (by decide +kernel)
set_option maxRecDepth 20000 in
theorem gL_law_X5_order : GoodIn wsL_law (wsV RL 55 RX5 yX5_order wsX5_order) := goodIn_app (goodIn_of _ (by decide +kernel)) ggL_law_X5_order
set_option maxRecDepth 20000 in
theorem ggL_law_X4_day : GoodIn wsL_law wsX4_day := goodIn_r _ [278, 21, 279, 280, 281, 23, 282, 270, 43, 178, 179, 180, 2, 181, 182, 183, 184, 19, 185, 186, 29, 27, 187, 188, 189, 190, 191, 192, 70, 71, 72, 193, 194, 195, 196, 197, 198, 199, 200, 117, 201, 202, 203, 16, 204, 34, 205, 124, 125, 126, 206, 120, 121, 122, 207, 208, 209, 210, 35, 211, 212, 213, 214, 36, 135, 136, 137, 138, 215, 216, 217, 218, 219, 220, 221, 222, 223, 224, 225, 226, 227, 228, 229, 41, 230, 231, 232, 233, 234, 235, 236, 26, 237, 48, 238, 239, 49, 240, 50, 241, 51, 242, 243, 244, 245, 246, 283, 284, 285, 286, 394, 395, 396, 397, 398, 399, 414, 415, 416, 417, 424, 425, 426, 427, 428, 429, 411, 412, 413, 418, 419, 420, 421, 422, 423] (by decide +kernel) (by decide +kernel)
set_option maxRecDepth 20000 in
theorem gL_law_X4_day : GoodIn wsL_law (wsV RL 56 RX4 yX4_day wsX4_day) := goodIn_app (goodIn_of _ (by decide +kernel)) ggL_law_X4_day
set_option maxRecDepth 20000 in
theorem ggL_law_X5_day : GoodIn wsL_law wsX5_day := goodIn_r _ [290, 81, 63, 62, 291, 248, 249, 5, 250, 60, 61, 65, 64, 251, 252, 253, 82, 83, 84, 254, 255, 256, 257, 56, 58, 59, 258, 259, 260, 261, 57, 148, 149, 150, 151, 156, 157, 158, 159, 160, 400, 401, 402, 403, 404, 405, 406, 407, 408, 409, 410] (by decide +kernel) (by decide +kernel)
set_option maxRecDepth 20000 in
theorem gL_law_X5_day : GoodIn wsL_law (wsV RL 60 RX5 yX5_day wsX5_day) := goodIn_app (goodIn_of _ (by decide +kernel)) ggL_law_X5_day
set_option maxRecDepth 20000 in
theorem ggL_law_X4_fill : GoodIn wsL_law wsX4_fill := goodIn_r _ [295, 21, 183, 296, 244, 245, 246, 190, 191, 2, 192, 394, 395, 396, 397, 398, 399, 414, 415, 416, 417] (by decide +kernel) (by decide +kernel)
set_option maxRecDepth 20000 in
theorem gL_law_X4_fill : GoodIn wsL_law (wsV RL 61 RX4 yX4_fill wsX4_fill) := goodIn_app (goodIn_of _ (by decide +kernel)) ggL_law_X4_fill
set_option maxRecDepth 20000 in
theorem ggL_law_X5_fill : GoodIn wsL_law wsX5_fill := goodIn_r _ [300, 81, 60, 251, 252, 5, 253, 400, 401, 402, 403, 404, 405, 406, 407, 408, 409, 410] (by decide +kernel) (by decide +kernel)
set_option maxRecDepth 20000 in
theorem gL_law_X5_fill : GoodIn wsL_law (wsV RL 64 RX5 yX5_fill wsX5_fill) := goodIn_app (goodIn_of _ (by decide +kernel)) ggL_law_X5_fill
set_option maxRecDepth 20000 in
theorem ggL_law_X4_scribe : GoodIn wsL_law wsX4_scribe := goodIn_r _ [304, 21, 183, 305, 306, 190, 191, 2, 192, 394, 395, 396, 397, 398, 399, 414, 415, 416, 417] (by decide +kernel) (by decide +kernel)
set_option maxRecDepth 20000 in
theorem gL_law_X4_scribe : GoodIn wsL_law (wsV RL 65 RX4 yX4_scribe wsX4_scribe) := goodIn_app (goodIn_of _ (by decide +kernel)) ggL_law_X4_scribe
set_option maxRecDepth 20000 in
theorem ggL_law_X5_scribe : GoodIn wsL_law wsX5_scribe := goodIn_r _ [310, 81, 60, 63, 61, 251, 252, 5, 253, 400, 401, 402, 403, 404, 405, 406, 407, 408, 409, 410] (by decide +kernel) (by decide +kernel)
set_option maxRecDepth 20000 in
theorem gL_law_X5_scribe : GoodIn wsL_law (wsV RL 68 RX5 yX5_scribe wsX5_scribe) := goodIn_app (goodIn_of _ (by decide +kernel)) ggL_law_X5_scribe
set_option maxRecDepth 20000 in
theorem ggL_law_L_sign : GoodIn wsL_law wsL_sign := goodIn_ca (goodIn_ca (goodIn_r _ [314, 315, 316, 317, 318, 319, 2, 320, 321, 322, 323, 324, 19, 70, 71, 72, 123, 124, 125, 16, 126, 34, 127, 128, 129, 130, 35, 325, 326, 327, 328, 329, 36, 206, 120, 121, 122, 394, 395, 396, 397, 398, 399, 411, 412, 413] (by decide +kernel) (by decide +kernel)) (goodIn_sub (fun _ h => List.mem_append_left _ (List.mem_append_right _ h)) (by decide +kernel))) (goodIn_sub (fun _ h => List.mem_append_right _ h) (by decide +kernel))
set_option maxRecDepth 20000 in
theorem gL_law_L_sign : GoodIn wsL_law (va_wsS RL 69 yL_sign wsL_sign) := goodIn_app (goodIn_of _ (by decide +kernel)) ggL_law_L_sign
set_option maxRecDepth 20000 in
theorem ggL_law_X5_sign : GoodIn wsL_law wsX5_sign := goodIn_r _ [333, 81, 56, 58, 59, 82, 83, 5, 84, 400, 401, 402, 403, 404, 405, 406, 407, 408, 409, 410] (by decide +kernel) (by decide +kernel)
set_option maxRecDepth 20000 in
theorem gL_law_X5_sign : GoodIn wsL_law (wsV RL 74 RX5 yX5_sign wsX5_sign) := goodIn_app (goodIn_of _ (by decide +kernel)) ggL_law_X5_sign
set_option maxRecDepth 20000 in
theorem ggL_law_X5_thrown : GoodIn wsL_law wsX5_thrown := goodIn_r _ [337, 81, 400, 401, 402, 403, 404, 405, 406, 407, 408, 409, 410] (by decide +kernel) (by decide +kernel)
set_option maxRecDepth 20000 in
theorem gL_law_X5_thrown : GoodIn wsL_law (wsV RL 75 RX5 yX5_thrown wsX5_thrown) := goodIn_app (goodIn_of _ (by decide +kernel)) ggL_law_X5_thrown
set_option maxRecDepth 20000 in
theorem ggL_law_X4_book : GoodIn wsL_law wsX4_book := goodIn_r _ [341, 19, 117, 70, 71, 2, 72, 123, 124, 125, 16, 126, 34, 342, 343, 344, 345, 35, 394, 395, 396, 397, 398, 399, 411, 412, 413] (by decide +kernel) (by decide +kernel)
set_option maxRecDepth 20000 in
theorem gL_law_X4_book : GoodIn wsL_law (wsV RL 78 RX4 yX4_book wsX4_book) := goodIn_app (goodIn_of _ (by decide +kernel)) ggL_law_X4_book
set_option maxRecDepth 20000 in
theorem ggL_law_X5_book : GoodIn wsL_law wsX5_book := goodIn_r _ [349, 81, 56, 57, 58, 82, 83, 5, 84, 400, 401, 402, 403, 404, 405, 406, 407, 408, 409, 410] (by decide +kernel) (by decide +kernel)
set_option maxRecDepth 20000 in
theorem gL_law_X5_book : GoodIn wsL_law (wsV RL 81 RX5 yX5_book wsX5_book) := goodIn_app (goodIn_of _ (by decide +kernel)) ggL_law_X5_book
set_option maxRecDepth 20000 in
theorem ggL_law_X4_differ : GoodIn wsL_law wsX4_differ := goodIn_r _ [353, 19, 70, 71, 2, 72, 198, 199, 200, 117, 201, 202, 203, 16, 204, 34, 205, 124, 125, 126, 206, 120, 121, 122, 354, 355, 356, 296, 244, 245, 246, 118, 357, 342, 343, 344, 345, 35, 394, 395, 396, 397, 398, 399, 411, 412, 413] (by decide +kernel) (by decide +kernel)
set_option maxRecDepth 20000 in
theorem gL_law_X4_differ : GoodIn wsL_law (wsV RL 82 RX4 yX4_differ wsX4_differ) := goodIn_app (goodIn_of _ (by decide +kernel)) ggL_law_X4_differ
set_option maxRecDepth 20000 in
theorem ggL_law_X5_differ : GoodIn wsL_law wsX5_differ := goodIn_r _ [361, 81, 56, 58, 59, 82, 83, 5, 84, 258, 259, 260, 261, 57, 400, 401, 402, 403, 404, 405, 406, 407, 408, 409, 410] (by decide +kernel) (by decide +kernel)
set_option maxRecDepth 20000 in
theorem gL_law_X5_differ : GoodIn wsL_law (wsV RL 85 RX5 yX5_differ wsX5_differ) := goodIn_app (goodIn_of _ (by decide +kernel)) ggL_law_X5_differ
set_option maxRecDepth 20000 in
theorem ggL_law_X4_chronicle : GoodIn wsL_law wsX4_chronicle := goodIn_r _ [365, 27, 366, 367, 368, 369, 370, 371, 372, 26, 373, 242, 374, 375, 376, 377, 238, 378, 379, 380, 381, 394, 395, 396, 397, 398, 399, 418, 419, 420, 421, 422, 423] (by decide +kernel) (by decide +kernel)
set_option maxRecDepth 20000 in
theorem gL_law_X4_chronicle : GoodIn wsL_law (wsV RL 86 RX4 yX4_chronicle wsX4_chronicle) := goodIn_app (goodIn_of _ (by decide +kernel)) ggL_law_X4_chronicle
set_option maxRecDepth 20000 in
theorem ggL_law_X5_chronicle : GoodIn wsL_law wsX5_chronicle := goodIn_r _ [385, 81, 65, 64, 400, 401, 402, 403, 404, 405, 406, 407, 408, 409, 410] (by decide +kernel) (by decide +kernel)
set_option maxRecDepth 20000 in
theorem gL_law_X5_chronicle : GoodIn wsL_law (wsV RL 89 RX5 yX5_chronicle wsX5_chronicle) := goodIn_app (goodIn_of _ (by decide +kernel)) ggL_law_X5_chronicle
set_option maxRecDepth 20000 in
theorem ggL_law_X4_count : GoodIn wsL_law wsX4_count := goodIn_r _ [389, 29, 394, 395, 396, 397, 398, 399] (by decide +kernel) (by decide +kernel)
set_option maxRecDepth 20000 in
theorem gL_law_X4_count : GoodIn wsL_law (wsV RL 90 RX4 yX4_count wsX4_count) := goodIn_app (goodIn_of _ (by decide +kernel)) ggL_law_X4_count
set_option maxRecDepth 20000 in
theorem ggL_law_X5_count : GoodIn wsL_law wsX5_count := goodIn_r _ [393, 81, 65, 400, 401, 402, 403, 404, 405, 406, 407, 408, 409, 410] (by decide +kernel) (by decide +kernel)
set_option maxRecDepth 20000 in
theorem gL_law_X5_count : GoodIn wsL_law (wsV RL 93 RX5 yX5_count wsX5_count) := goodIn_app (goodIn_of _ (by decide +kernel)) ggL_law_X5_count
end
section
theorem dL_law_0 : decode cL_law 0 = .ok (.new 8, 3) := by decide +kernel
theorem dL_law_3 : decode cL_law 3 = .ok (.dup, 1) := by decide +kernel
theorem dL_law_4 : decode cL_law 4 = .ok (.invokespecial 17, 3) := by decide +kernel
theorem dL_law_7 : decode cL_law 7 = .ok (.astore_n 1, 1) := by decide +kernel
theorem dL_law_8 : decode cL_law 8 = .ok (.new 18, 3) := by decide +kernel
theorem dL_law_11 : decode cL_law 11 = .ok (.dup, 1) := by decide +kernel
theorem dL_law_12 : decode cL_law 12 = .ok (.invokespecial 20, 3) := by decide +kernel
theorem dL_law_15 : decode cL_law 15 = .ok (.astore_n 2, 1) := by decide +kernel
theorem dL_law_16 : decode cL_law 16 = .ok (.iconst 1, 1) := by decide +kernel
theorem dL_law_17 : decode cL_law 17 = .ok (.newarray .long, 2) := by decide +kernel
theorem dL_law_19 : decode cL_law 19 = .ok (.astore_n 3, 1) := by decide +kernel
theorem dL_law_20 : decode cL_law 20 = .ok (.iconst 0, 1) := by decide +kernel
theorem dL_law_21 : decode cL_law 21 = .ok (.istore 4, 2) := by decide +kernel
theorem dL_law_23 : decode cL_law 23 = .ok (.iload 4, 2) := by decide +kernel
theorem dL_law_25 : decode cL_law 25 = .ok (.aload_n 0, 1) := by decide +kernel
theorem dL_law_26 : decode cL_law 26 = .ok (.arraylength, 1) := by decide +kernel
theorem dL_law_27 : decode cL_law 27 = .ok (.bipush 7, 2) := by decide +kernel
theorem dL_law_29 : decode cL_law 29 = .ok (.isub, 1) := by decide +kernel
theorem dL_law_30 : decode cL_law 30 = .ok (.if_icmp .gt 785, 3) := by decide +kernel
theorem dL_law_33 : decode cL_law 33 = .ok (.aload_n 0, 1) := by decide +kernel
theorem dL_law_34 : decode cL_law 34 = .ok (.iload 4, 2) := by decide +kernel
theorem dL_law_36 : decode cL_law 36 = .ok (.iaload, 1) := by decide +kernel
theorem dL_law_37 : decode cL_law 37 = .ok (.bipush 15, 2) := by decide +kernel
theorem dL_law_39 : decode cL_law 39 = .ok (.iand, 1) := by decide +kernel
theorem dL_law_40 : decode cL_law 40 = .ok (.tableswitch 769 0 14 #[76, 125, 150, 187, 212, 305, 392, 479, 492, 529, 566, 633, 670, 707, 744], 76) := by decide +kernel
theorem dL_law_116 : decode cL_law 116 = .ok (.aload_n 1, 1) := by decide +kernel
theorem dL_law_117 : decode cL_law 117 = .ok (.aload_n 0, 1) := by decide +kernel
theorem dL_law_118 : decode cL_law 118 = .ok (.iload 4, 2) := by decide +kernel
theorem dL_law_120 : decode cL_law 120 = .ok (.iconst 1, 1) := by decide +kernel
theorem dL_law_121 : decode cL_law 121 = .ok (.iadd, 1) := by decide +kernel
theorem dL_law_122 : decode cL_law 122 = .ok (.iaload, 1) := by decide +kernel
theorem dL_law_123 : decode cL_law 123 = .ok (.aload_n 0, 1) := by decide +kernel
theorem dL_law_124 : decode cL_law 124 = .ok (.iload 4, 2) := by decide +kernel
theorem dL_law_126 : decode cL_law 126 = .ok (.iconst 2, 1) := by decide +kernel
theorem dL_law_127 : decode cL_law 127 = .ok (.iadd, 1) := by decide +kernel
theorem dL_law_128 : decode cL_law 128 = .ok (.iaload, 1) := by decide +kernel
theorem dL_law_129 : decode cL_law 129 = .ok (.aload_n 0, 1) := by decide +kernel
theorem dL_law_130 : decode cL_law 130 = .ok (.iload 4, 2) := by decide +kernel
theorem dL_law_132 : decode cL_law 132 = .ok (.iconst 3, 1) := by decide +kernel
theorem dL_law_133 : decode cL_law 133 = .ok (.iadd, 1) := by decide +kernel
theorem dL_law_134 : decode cL_law 134 = .ok (.iaload, 1) := by decide +kernel
theorem dL_law_135 : decode cL_law 135 = .ok (.invokevirtual 21, 3) := by decide +kernel
theorem dL_law_138 : decode cL_law 138 = .ok (.aload_n 2, 1) := by decide +kernel
theorem dL_law_139 : decode cL_law 139 = .ok (.aload_n 0, 1) := by decide +kernel
theorem dL_law_140 : decode cL_law 140 = .ok (.iload 4, 2) := by decide +kernel
theorem dL_law_142 : decode cL_law 142 = .ok (.iconst 1, 1) := by decide +kernel
theorem dL_law_143 : decode cL_law 143 = .ok (.iadd, 1) := by decide +kernel
theorem dL_law_144 : decode cL_law 144 = .ok (.iaload, 1) := by decide +kernel
theorem dL_law_145 : decode cL_law 145 = .ok (.aload_n 0, 1) := by decide +kernel
theorem dL_law_146 : decode cL_law 146 = .ok (.iload 4, 2) := by decide +kernel
theorem dL_law_148 : decode cL_law 148 = .ok (.iconst 2, 1) := by decide +kernel
theorem dL_law_149 : decode cL_law 149 = .ok (.iadd, 1) := by decide +kernel
theorem dL_law_150 : decode cL_law 150 = .ok (.iaload, 1) := by decide +kernel
theorem dL_law_151 : decode cL_law 151 = .ok (.aload_n 0, 1) := by decide +kernel
theorem dL_law_152 : decode cL_law 152 = .ok (.iload 4, 2) := by decide +kernel
theorem dL_law_154 : decode cL_law 154 = .ok (.iconst 3, 1) := by decide +kernel
theorem dL_law_155 : decode cL_law 155 = .ok (.iadd, 1) := by decide +kernel
theorem dL_law_156 : decode cL_law 156 = .ok (.iaload, 1) := by decide +kernel
theorem dL_law_157 : decode cL_law 157 = .ok (.invokevirtual 25, 3) := by decide +kernel
theorem dL_law_160 : decode cL_law 160 = .ok (.if_icmp .eq 649, 3) := by decide +kernel
theorem dL_law_163 : decode cL_law 163 = .ok (.iconst 0, 1) := by decide +kernel
theorem dL_law_164 : decode cL_law 164 = .ok (.ireturn, 1) := by decide +kernel
theorem dL_law_165 : decode cL_law 165 = .ok (.aload_n 1, 1) := by decide +kernel
theorem dL_law_166 : decode cL_law 166 = .ok (.aload_n 0, 1) := by decide +kernel
theorem dL_law_167 : decode cL_law 167 = .ok (.iload 4, 2) := by decide +kernel
theorem dL_law_169 : decode cL_law 169 = .ok (.iconst 1, 1) := by decide +kernel
theorem dL_law_170 : decode cL_law 170 = .ok (.iadd, 1) := by decide +kernel
theorem dL_law_171 : decode cL_law 171 = .ok (.iaload, 1) := by decide +kernel
theorem dL_law_172 : decode cL_law 172 = .ok (.invokevirtual 26, 3) := by decide +kernel
theorem dL_law_175 : decode cL_law 175 = .ok (.aload_n 2, 1) := by decide +kernel
theorem dL_law_176 : decode cL_law 176 = .ok (.aload_n 0, 1) := by decide +kernel
theorem dL_law_177 : decode cL_law 177 = .ok (.iload 4, 2) := by decide +kernel
theorem dL_law_179 : decode cL_law 179 = .ok (.iconst 1, 1) := by decide +kernel
theorem dL_law_180 : decode cL_law 180 = .ok (.iadd, 1) := by decide +kernel
theorem dL_law_181 : decode cL_law 181 = .ok (.iaload, 1) := by decide +kernel
theorem dL_law_182 : decode cL_law 182 = .ok (.invokevirtual 30, 3) := by decide +kernel
theorem dL_law_185 : decode cL_law 185 = .ok (.if_icmp .eq 624, 3) := by decide +kernel
theorem dL_law_188 : decode cL_law 188 = .ok (.iconst 0, 1) := by decide +kernel
theorem dL_law_189 : decode cL_law 189 = .ok (.ireturn, 1) := by decide +kernel
theorem dL_law_190 : decode cL_law 190 = .ok (.aload_n 1, 1) := by decide +kernel
theorem dL_law_191 : decode cL_law 191 = .ok (.aload_n 0, 1) := by decide +kernel
theorem dL_law_192 : decode cL_law 192 = .ok (.iload 4, 2) := by decide +kernel
theorem dL_law_194 : decode cL_law 194 = .ok (.iconst 1, 1) := by decide +kernel
theorem dL_law_195 : decode cL_law 195 = .ok (.iadd, 1) := by decide +kernel
theorem dL_law_196 : decode cL_law 196 = .ok (.iaload, 1) := by decide +kernel
theorem dL_law_197 : decode cL_law 197 = .ok (.aload_n 0, 1) := by decide +kernel
theorem dL_law_198 : decode cL_law 198 = .ok (.iload 4, 2) := by decide +kernel
theorem dL_law_200 : decode cL_law 200 = .ok (.iconst 2, 1) := by decide +kernel
theorem dL_law_201 : decode cL_law 201 = .ok (.iadd, 1) := by decide +kernel
theorem dL_law_202 : decode cL_law 202 = .ok (.iaload, 1) := by decide +kernel
theorem dL_law_203 : decode cL_law 203 = .ok (.invokevirtual 31, 3) := by decide +kernel
theorem dL_law_206 : decode cL_law 206 = .ok (.aload_n 2, 1) := by decide +kernel
theorem dL_law_207 : decode cL_law 207 = .ok (.aload_n 0, 1) := by decide +kernel
theorem dL_law_208 : decode cL_law 208 = .ok (.iload 4, 2) := by decide +kernel
theorem dL_law_210 : decode cL_law 210 = .ok (.iconst 1, 1) := by decide +kernel
theorem dL_law_211 : decode cL_law 211 = .ok (.iadd, 1) := by decide +kernel
theorem dL_law_212 : decode cL_law 212 = .ok (.iaload, 1) := by decide +kernel
theorem dL_law_213 : decode cL_law 213 = .ok (.aload_n 0, 1) := by decide +kernel
theorem dL_law_214 : decode cL_law 214 = .ok (.iload 4, 2) := by decide +kernel
theorem dL_law_216 : decode cL_law 216 = .ok (.iconst 2, 1) := by decide +kernel
theorem dL_law_217 : decode cL_law 217 = .ok (.iadd, 1) := by decide +kernel
theorem dL_law_218 : decode cL_law 218 = .ok (.iaload, 1) := by decide +kernel
theorem dL_law_219 : decode cL_law 219 = .ok (.invokevirtual 35, 3) := by decide +kernel
theorem dL_law_222 : decode cL_law 222 = .ok (.if_icmp .eq 587, 3) := by decide +kernel
theorem dL_law_225 : decode cL_law 225 = .ok (.iconst 0, 1) := by decide +kernel
theorem dL_law_226 : decode cL_law 226 = .ok (.ireturn, 1) := by decide +kernel
theorem dL_law_227 : decode cL_law 227 = .ok (.aload_n 1, 1) := by decide +kernel
theorem dL_law_228 : decode cL_law 228 = .ok (.aload_n 0, 1) := by decide +kernel
theorem dL_law_229 : decode cL_law 229 = .ok (.iload 4, 2) := by decide +kernel
theorem dL_law_231 : decode cL_law 231 = .ok (.iconst 1, 1) := by decide +kernel
theorem dL_law_232 : decode cL_law 232 = .ok (.iadd, 1) := by decide +kernel
theorem dL_law_233 : decode cL_law 233 = .ok (.iaload, 1) := by decide +kernel
theorem dL_law_234 : decode cL_law 234 = .ok (.invokevirtual 36, 3) := by decide +kernel
theorem dL_law_237 : decode cL_law 237 = .ok (.aload_n 2, 1) := by decide +kernel
theorem dL_law_238 : decode cL_law 238 = .ok (.aload_n 0, 1) := by decide +kernel
theorem dL_law_239 : decode cL_law 239 = .ok (.iload 4, 2) := by decide +kernel
theorem dL_law_241 : decode cL_law 241 = .ok (.iconst 1, 1) := by decide +kernel
theorem dL_law_242 : decode cL_law 242 = .ok (.iadd, 1) := by decide +kernel
theorem dL_law_243 : decode cL_law 243 = .ok (.iaload, 1) := by decide +kernel
theorem dL_law_244 : decode cL_law 244 = .ok (.invokevirtual 39, 3) := by decide +kernel
theorem dL_law_247 : decode cL_law 247 = .ok (.if_icmp .eq 562, 3) := by decide +kernel
theorem dL_law_250 : decode cL_law 250 = .ok (.iconst 0, 1) := by decide +kernel
theorem dL_law_251 : decode cL_law 251 = .ok (.ireturn, 1) := by decide +kernel
theorem dL_law_252 : decode cL_law 252 = .ok (.aload_n 1, 1) := by decide +kernel
theorem dL_law_253 : decode cL_law 253 = .ok (.aload_n 0, 1) := by decide +kernel
theorem dL_law_254 : decode cL_law 254 = .ok (.iload 4, 2) := by decide +kernel
theorem dL_law_256 : decode cL_law 256 = .ok (.iconst 1, 1) := by decide +kernel
theorem dL_law_257 : decode cL_law 257 = .ok (.iadd, 1) := by decide +kernel
theorem dL_law_258 : decode cL_law 258 = .ok (.iaload, 1) := by decide +kernel
theorem dL_law_259 : decode cL_law 259 = .ok (.aload_n 0, 1) := by decide +kernel
theorem dL_law_260 : decode cL_law 260 = .ok (.iload 4, 2) := by decide +kernel
theorem dL_law_262 : decode cL_law 262 = .ok (.iconst 2, 1) := by decide +kernel
theorem dL_law_263 : decode cL_law 263 = .ok (.iadd, 1) := by decide +kernel
theorem dL_law_264 : decode cL_law 264 = .ok (.iaload, 1) := by decide +kernel
theorem dL_law_265 : decode cL_law 265 = .ok (.aload_n 0, 1) := by decide +kernel
theorem dL_law_266 : decode cL_law 266 = .ok (.iload 4, 2) := by decide +kernel
theorem dL_law_268 : decode cL_law 268 = .ok (.iconst 3, 1) := by decide +kernel
theorem dL_law_269 : decode cL_law 269 = .ok (.iadd, 1) := by decide +kernel
theorem dL_law_270 : decode cL_law 270 = .ok (.iaload, 1) := by decide +kernel
theorem dL_law_271 : decode cL_law 271 = .ok (.aload_n 0, 1) := by decide +kernel
end
section
theorem dL_law_272 : decode cL_law 272 = .ok (.iload 4, 2) := by decide +kernel
theorem dL_law_274 : decode cL_law 274 = .ok (.iconst 4, 1) := by decide +kernel
theorem dL_law_275 : decode cL_law 275 = .ok (.iadd, 1) := by decide +kernel
theorem dL_law_276 : decode cL_law 276 = .ok (.iaload, 1) := by decide +kernel
theorem dL_law_277 : decode cL_law 277 = .ok (.i2l, 1) := by decide +kernel
theorem dL_law_278 : decode cL_law 278 = .ok (.bipush 32, 2) := by decide +kernel
theorem dL_law_280 : decode cL_law 280 = .ok (.lshl, 1) := by decide +kernel
theorem dL_law_281 : decode cL_law 281 = .ok (.aload_n 0, 1) := by decide +kernel
theorem dL_law_282 : decode cL_law 282 = .ok (.iload 4, 2) := by decide +kernel
theorem dL_law_284 : decode cL_law 284 = .ok (.iconst 5, 1) := by decide +kernel
theorem dL_law_285 : decode cL_law 285 = .ok (.iadd, 1) := by decide +kernel
theorem dL_law_286 : decode cL_law 286 = .ok (.iaload, 1) := by decide +kernel
theorem dL_law_287 : decode cL_law 287 = .ok (.i2l, 1) := by decide +kernel
theorem dL_law_288 : decode cL_law 288 = .ok (.ldc2_w 40, 3) := by decide +kernel
theorem dL_law_291 : decode cL_law 291 = .ok (.land, 1) := by decide +kernel
theorem dL_law_292 : decode cL_law 292 = .ok (.lor, 1) := by decide +kernel
theorem dL_law_293 : decode cL_law 293 = .ok (.invokevirtual 42, 3) := by decide +kernel
theorem dL_law_296 : decode cL_law 296 = .ok (.aload_n 2, 1) := by decide +kernel
theorem dL_law_297 : decode cL_law 297 = .ok (.aload_n 0, 1) := by decide +kernel
theorem dL_law_298 : decode cL_law 298 = .ok (.iload 4, 2) := by decide +kernel
theorem dL_law_300 : decode cL_law 300 = .ok (.iconst 1, 1) := by decide +kernel
theorem dL_law_301 : decode cL_law 301 = .ok (.iadd, 1) := by decide +kernel
theorem dL_law_302 : decode cL_law 302 = .ok (.iaload, 1) := by decide +kernel
theorem dL_law_303 : decode cL_law 303 = .ok (.aload_n 0, 1) := by decide +kernel
theorem dL_law_304 : decode cL_law 304 = .ok (.iload 4, 2) := by decide +kernel
theorem dL_law_306 : decode cL_law 306 = .ok (.iconst 2, 1) := by decide +kernel
theorem dL_law_307 : decode cL_law 307 = .ok (.iadd, 1) := by decide +kernel
theorem dL_law_308 : decode cL_law 308 = .ok (.iaload, 1) := by decide +kernel
theorem dL_law_309 : decode cL_law 309 = .ok (.aload_n 0, 1) := by decide +kernel
theorem dL_law_310 : decode cL_law 310 = .ok (.iload 4, 2) := by decide +kernel
theorem dL_law_312 : decode cL_law 312 = .ok (.iconst 3, 1) := by decide +kernel
theorem dL_law_313 : decode cL_law 313 = .ok (.iadd, 1) := by decide +kernel
theorem dL_law_314 : decode cL_law 314 = .ok (.iaload, 1) := by decide +kernel
theorem dL_law_315 : decode cL_law 315 = .ok (.aload_n 0, 1) := by decide +kernel
theorem dL_law_316 : decode cL_law 316 = .ok (.iload 4, 2) := by decide +kernel
theorem dL_law_318 : decode cL_law 318 = .ok (.iconst 4, 1) := by decide +kernel
theorem dL_law_319 : decode cL_law 319 = .ok (.iadd, 1) := by decide +kernel
theorem dL_law_320 : decode cL_law 320 = .ok (.iaload, 1) := by decide +kernel
theorem dL_law_321 : decode cL_law 321 = .ok (.i2l, 1) := by decide +kernel
theorem dL_law_322 : decode cL_law 322 = .ok (.bipush 32, 2) := by decide +kernel
theorem dL_law_324 : decode cL_law 324 = .ok (.lshl, 1) := by decide +kernel
theorem dL_law_325 : decode cL_law 325 = .ok (.aload_n 0, 1) := by decide +kernel
theorem dL_law_326 : decode cL_law 326 = .ok (.iload 4, 2) := by decide +kernel
theorem dL_law_328 : decode cL_law 328 = .ok (.iconst 5, 1) := by decide +kernel
theorem dL_law_329 : decode cL_law 329 = .ok (.iadd, 1) := by decide +kernel
theorem dL_law_330 : decode cL_law 330 = .ok (.iaload, 1) := by decide +kernel
theorem dL_law_331 : decode cL_law 331 = .ok (.i2l, 1) := by decide +kernel
theorem dL_law_332 : decode cL_law 332 = .ok (.ldc2_w 40, 3) := by decide +kernel
theorem dL_law_335 : decode cL_law 335 = .ok (.land, 1) := by decide +kernel
theorem dL_law_336 : decode cL_law 336 = .ok (.lor, 1) := by decide +kernel
theorem dL_law_337 : decode cL_law 337 = .ok (.invokevirtual 46, 3) := by decide +kernel
theorem dL_law_340 : decode cL_law 340 = .ok (.if_icmp .eq 469, 3) := by decide +kernel
theorem dL_law_343 : decode cL_law 343 = .ok (.iconst 0, 1) := by decide +kernel
theorem dL_law_344 : decode cL_law 344 = .ok (.ireturn, 1) := by decide +kernel
theorem dL_law_345 : decode cL_law 345 = .ok (.aload_n 1, 1) := by decide +kernel
theorem dL_law_346 : decode cL_law 346 = .ok (.aload_n 0, 1) := by decide +kernel
theorem dL_law_347 : decode cL_law 347 = .ok (.iload 4, 2) := by decide +kernel
theorem dL_law_349 : decode cL_law 349 = .ok (.iconst 1, 1) := by decide +kernel
theorem dL_law_350 : decode cL_law 350 = .ok (.iadd, 1) := by decide +kernel
theorem dL_law_351 : decode cL_law 351 = .ok (.iaload, 1) := by decide +kernel
theorem dL_law_352 : decode cL_law 352 = .ok (.aload_n 0, 1) := by decide +kernel
theorem dL_law_353 : decode cL_law 353 = .ok (.iload 4, 2) := by decide +kernel
theorem dL_law_355 : decode cL_law 355 = .ok (.iconst 2, 1) := by decide +kernel
theorem dL_law_356 : decode cL_law 356 = .ok (.iadd, 1) := by decide +kernel
theorem dL_law_357 : decode cL_law 357 = .ok (.iaload, 1) := by decide +kernel
theorem dL_law_358 : decode cL_law 358 = .ok (.aload_n 0, 1) := by decide +kernel
theorem dL_law_359 : decode cL_law 359 = .ok (.iload 4, 2) := by decide +kernel
theorem dL_law_361 : decode cL_law 361 = .ok (.iconst 3, 1) := by decide +kernel
theorem dL_law_362 : decode cL_law 362 = .ok (.iadd, 1) := by decide +kernel
theorem dL_law_363 : decode cL_law 363 = .ok (.iaload, 1) := by decide +kernel
theorem dL_law_364 : decode cL_law 364 = .ok (.aload_n 0, 1) := by decide +kernel
theorem dL_law_365 : decode cL_law 365 = .ok (.iload 4, 2) := by decide +kernel
theorem dL_law_367 : decode cL_law 367 = .ok (.iconst 4, 1) := by decide +kernel
theorem dL_law_368 : decode cL_law 368 = .ok (.iadd, 1) := by decide +kernel
theorem dL_law_369 : decode cL_law 369 = .ok (.iaload, 1) := by decide +kernel
theorem dL_law_370 : decode cL_law 370 = .ok (.aload_n 0, 1) := by decide +kernel
theorem dL_law_371 : decode cL_law 371 = .ok (.iload 4, 2) := by decide +kernel
theorem dL_law_373 : decode cL_law 373 = .ok (.iconst 5, 1) := by decide +kernel
theorem dL_law_374 : decode cL_law 374 = .ok (.iadd, 1) := by decide +kernel
theorem dL_law_375 : decode cL_law 375 = .ok (.iaload, 1) := by decide +kernel
theorem dL_law_376 : decode cL_law 376 = .ok (.aload_n 0, 1) := by decide +kernel
theorem dL_law_377 : decode cL_law 377 = .ok (.iload 4, 2) := by decide +kernel
theorem dL_law_379 : decode cL_law 379 = .ok (.bipush 6, 2) := by decide +kernel
theorem dL_law_381 : decode cL_law 381 = .ok (.iadd, 1) := by decide +kernel
theorem dL_law_382 : decode cL_law 382 = .ok (.iaload, 1) := by decide +kernel
theorem dL_law_383 : decode cL_law 383 = .ok (.invokevirtual 47, 3) := by decide +kernel
theorem dL_law_386 : decode cL_law 386 = .ok (.aload_n 2, 1) := by decide +kernel
theorem dL_law_387 : decode cL_law 387 = .ok (.aload_n 0, 1) := by decide +kernel
theorem dL_law_388 : decode cL_law 388 = .ok (.iload 4, 2) := by decide +kernel
theorem dL_law_390 : decode cL_law 390 = .ok (.iconst 1, 1) := by decide +kernel
theorem dL_law_391 : decode cL_law 391 = .ok (.iadd, 1) := by decide +kernel
theorem dL_law_392 : decode cL_law 392 = .ok (.iaload, 1) := by decide +kernel
theorem dL_law_393 : decode cL_law 393 = .ok (.aload_n 0, 1) := by decide +kernel
theorem dL_law_394 : decode cL_law 394 = .ok (.iload 4, 2) := by decide +kernel
theorem dL_law_396 : decode cL_law 396 = .ok (.iconst 2, 1) := by decide +kernel
theorem dL_law_397 : decode cL_law 397 = .ok (.iadd, 1) := by decide +kernel
theorem dL_law_398 : decode cL_law 398 = .ok (.iaload, 1) := by decide +kernel
theorem dL_law_399 : decode cL_law 399 = .ok (.aload_n 0, 1) := by decide +kernel
theorem dL_law_400 : decode cL_law 400 = .ok (.iload 4, 2) := by decide +kernel
theorem dL_law_402 : decode cL_law 402 = .ok (.iconst 3, 1) := by decide +kernel
theorem dL_law_403 : decode cL_law 403 = .ok (.iadd, 1) := by decide +kernel
theorem dL_law_404 : decode cL_law 404 = .ok (.iaload, 1) := by decide +kernel
theorem dL_law_405 : decode cL_law 405 = .ok (.aload_n 0, 1) := by decide +kernel
theorem dL_law_406 : decode cL_law 406 = .ok (.iload 4, 2) := by decide +kernel
theorem dL_law_408 : decode cL_law 408 = .ok (.iconst 4, 1) := by decide +kernel
theorem dL_law_409 : decode cL_law 409 = .ok (.iadd, 1) := by decide +kernel
theorem dL_law_410 : decode cL_law 410 = .ok (.iaload, 1) := by decide +kernel
theorem dL_law_411 : decode cL_law 411 = .ok (.aload_n 0, 1) := by decide +kernel
theorem dL_law_412 : decode cL_law 412 = .ok (.iload 4, 2) := by decide +kernel
theorem dL_law_414 : decode cL_law 414 = .ok (.iconst 5, 1) := by decide +kernel
theorem dL_law_415 : decode cL_law 415 = .ok (.iadd, 1) := by decide +kernel
theorem dL_law_416 : decode cL_law 416 = .ok (.iaload, 1) := by decide +kernel
theorem dL_law_417 : decode cL_law 417 = .ok (.aload_n 0, 1) := by decide +kernel
theorem dL_law_418 : decode cL_law 418 = .ok (.iload 4, 2) := by decide +kernel
theorem dL_law_420 : decode cL_law 420 = .ok (.bipush 6, 2) := by decide +kernel
theorem dL_law_422 : decode cL_law 422 = .ok (.iadd, 1) := by decide +kernel
theorem dL_law_423 : decode cL_law 423 = .ok (.iaload, 1) := by decide +kernel
theorem dL_law_424 : decode cL_law 424 = .ok (.invokevirtual 51, 3) := by decide +kernel
theorem dL_law_427 : decode cL_law 427 = .ok (.if_icmp .eq 382, 3) := by decide +kernel
theorem dL_law_430 : decode cL_law 430 = .ok (.iconst 0, 1) := by decide +kernel
theorem dL_law_431 : decode cL_law 431 = .ok (.ireturn, 1) := by decide +kernel
theorem dL_law_432 : decode cL_law 432 = .ok (.aload_n 1, 1) := by decide +kernel
theorem dL_law_433 : decode cL_law 433 = .ok (.aload_n 0, 1) := by decide +kernel
theorem dL_law_434 : decode cL_law 434 = .ok (.iload 4, 2) := by decide +kernel
theorem dL_law_436 : decode cL_law 436 = .ok (.iconst 1, 1) := by decide +kernel
theorem dL_law_437 : decode cL_law 437 = .ok (.iadd, 1) := by decide +kernel
theorem dL_law_438 : decode cL_law 438 = .ok (.iaload, 1) := by decide +kernel
theorem dL_law_439 : decode cL_law 439 = .ok (.aload_n 0, 1) := by decide +kernel
theorem dL_law_440 : decode cL_law 440 = .ok (.iload 4, 2) := by decide +kernel
theorem dL_law_442 : decode cL_law 442 = .ok (.iconst 2, 1) := by decide +kernel
theorem dL_law_443 : decode cL_law 443 = .ok (.iadd, 1) := by decide +kernel
theorem dL_law_444 : decode cL_law 444 = .ok (.iaload, 1) := by decide +kernel
theorem dL_law_445 : decode cL_law 445 = .ok (.aload_n 0, 1) := by decide +kernel
theorem dL_law_446 : decode cL_law 446 = .ok (.iload 4, 2) := by decide +kernel
theorem dL_law_448 : decode cL_law 448 = .ok (.iconst 3, 1) := by decide +kernel
theorem dL_law_449 : decode cL_law 449 = .ok (.iadd, 1) := by decide +kernel
theorem dL_law_450 : decode cL_law 450 = .ok (.iaload, 1) := by decide +kernel
theorem dL_law_451 : decode cL_law 451 = .ok (.aload_n 0, 1) := by decide +kernel
theorem dL_law_452 : decode cL_law 452 = .ok (.iload 4, 2) := by decide +kernel
theorem dL_law_454 : decode cL_law 454 = .ok (.iconst 4, 1) := by decide +kernel
end
section
theorem dL_law_455 : decode cL_law 455 = .ok (.iadd, 1) := by decide +kernel
theorem dL_law_456 : decode cL_law 456 = .ok (.iaload, 1) := by decide +kernel
theorem dL_law_457 : decode cL_law 457 = .ok (.aload_n 0, 1) := by decide +kernel
theorem dL_law_458 : decode cL_law 458 = .ok (.iload 4, 2) := by decide +kernel
theorem dL_law_460 : decode cL_law 460 = .ok (.iconst 5, 1) := by decide +kernel
theorem dL_law_461 : decode cL_law 461 = .ok (.iadd, 1) := by decide +kernel
theorem dL_law_462 : decode cL_law 462 = .ok (.iaload, 1) := by decide +kernel
theorem dL_law_463 : decode cL_law 463 = .ok (.aload_n 0, 1) := by decide +kernel
theorem dL_law_464 : decode cL_law 464 = .ok (.iload 4, 2) := by decide +kernel
theorem dL_law_466 : decode cL_law 466 = .ok (.bipush 6, 2) := by decide +kernel
theorem dL_law_468 : decode cL_law 468 = .ok (.iadd, 1) := by decide +kernel
theorem dL_law_469 : decode cL_law 469 = .ok (.iaload, 1) := by decide +kernel
theorem dL_law_470 : decode cL_law 470 = .ok (.invokevirtual 52, 3) := by decide +kernel
theorem dL_law_473 : decode cL_law 473 = .ok (.aload_n 2, 1) := by decide +kernel
theorem dL_law_474 : decode cL_law 474 = .ok (.aload_n 0, 1) := by decide +kernel
theorem dL_law_475 : decode cL_law 475 = .ok (.iload 4, 2) := by decide +kernel
theorem dL_law_477 : decode cL_law 477 = .ok (.iconst 1, 1) := by decide +kernel
theorem dL_law_478 : decode cL_law 478 = .ok (.iadd, 1) := by decide +kernel
theorem dL_law_479 : decode cL_law 479 = .ok (.iaload, 1) := by decide +kernel
theorem dL_law_480 : decode cL_law 480 = .ok (.aload_n 0, 1) := by decide +kernel
theorem dL_law_481 : decode cL_law 481 = .ok (.iload 4, 2) := by decide +kernel
theorem dL_law_483 : decode cL_law 483 = .ok (.iconst 2, 1) := by decide +kernel
theorem dL_law_484 : decode cL_law 484 = .ok (.iadd, 1) := by decide +kernel
theorem dL_law_485 : decode cL_law 485 = .ok (.iaload, 1) := by decide +kernel
theorem dL_law_486 : decode cL_law 486 = .ok (.aload_n 0, 1) := by decide +kernel
theorem dL_law_487 : decode cL_law 487 = .ok (.iload 4, 2) := by decide +kernel
theorem dL_law_489 : decode cL_law 489 = .ok (.iconst 3, 1) := by decide +kernel
theorem dL_law_490 : decode cL_law 490 = .ok (.iadd, 1) := by decide +kernel
theorem dL_law_491 : decode cL_law 491 = .ok (.iaload, 1) := by decide +kernel
theorem dL_law_492 : decode cL_law 492 = .ok (.aload_n 0, 1) := by decide +kernel
theorem dL_law_493 : decode cL_law 493 = .ok (.iload 4, 2) := by decide +kernel
theorem dL_law_495 : decode cL_law 495 = .ok (.iconst 4, 1) := by decide +kernel
theorem dL_law_496 : decode cL_law 496 = .ok (.iadd, 1) := by decide +kernel
theorem dL_law_497 : decode cL_law 497 = .ok (.iaload, 1) := by decide +kernel
theorem dL_law_498 : decode cL_law 498 = .ok (.aload_n 0, 1) := by decide +kernel
theorem dL_law_499 : decode cL_law 499 = .ok (.iload 4, 2) := by decide +kernel
theorem dL_law_501 : decode cL_law 501 = .ok (.iconst 5, 1) := by decide +kernel
theorem dL_law_502 : decode cL_law 502 = .ok (.iadd, 1) := by decide +kernel
theorem dL_law_503 : decode cL_law 503 = .ok (.iaload, 1) := by decide +kernel
theorem dL_law_504 : decode cL_law 504 = .ok (.aload_n 0, 1) := by decide +kernel
theorem dL_law_505 : decode cL_law 505 = .ok (.iload 4, 2) := by decide +kernel
theorem dL_law_507 : decode cL_law 507 = .ok (.bipush 6, 2) := by decide +kernel
theorem dL_law_509 : decode cL_law 509 = .ok (.iadd, 1) := by decide +kernel
theorem dL_law_510 : decode cL_law 510 = .ok (.iaload, 1) := by decide +kernel
theorem dL_law_511 : decode cL_law 511 = .ok (.invokevirtual 55, 3) := by decide +kernel
theorem dL_law_514 : decode cL_law 514 = .ok (.if_icmp .eq 295, 3) := by decide +kernel
theorem dL_law_517 : decode cL_law 517 = .ok (.iconst 0, 1) := by decide +kernel
theorem dL_law_518 : decode cL_law 518 = .ok (.ireturn, 1) := by decide +kernel
theorem dL_law_519 : decode cL_law 519 = .ok (.aload_n 1, 1) := by decide +kernel
theorem dL_law_520 : decode cL_law 520 = .ok (.invokevirtual 56, 3) := by decide +kernel
theorem dL_law_523 : decode cL_law 523 = .ok (.aload_n 2, 1) := by decide +kernel
theorem dL_law_524 : decode cL_law 524 = .ok (.invokevirtual 60, 3) := by decide +kernel
theorem dL_law_527 : decode cL_law 527 = .ok (.if_icmp .eq 282, 3) := by decide +kernel
theorem dL_law_530 : decode cL_law 530 = .ok (.iconst 0, 1) := by decide +kernel
theorem dL_law_531 : decode cL_law 531 = .ok (.ireturn, 1) := by decide +kernel
theorem dL_law_532 : decode cL_law 532 = .ok (.aload_n 1, 1) := by decide +kernel
theorem dL_law_533 : decode cL_law 533 = .ok (.aload_n 0, 1) := by decide +kernel
theorem dL_law_534 : decode cL_law 534 = .ok (.iload 4, 2) := by decide +kernel
theorem dL_law_536 : decode cL_law 536 = .ok (.iconst 1, 1) := by decide +kernel
theorem dL_law_537 : decode cL_law 537 = .ok (.iadd, 1) := by decide +kernel
theorem dL_law_538 : decode cL_law 538 = .ok (.iaload, 1) := by decide +kernel
theorem dL_law_539 : decode cL_law 539 = .ok (.aload_n 0, 1) := by decide +kernel
theorem dL_law_540 : decode cL_law 540 = .ok (.iload 4, 2) := by decide +kernel
theorem dL_law_542 : decode cL_law 542 = .ok (.iconst 2, 1) := by decide +kernel
theorem dL_law_543 : decode cL_law 543 = .ok (.iadd, 1) := by decide +kernel
theorem dL_law_544 : decode cL_law 544 = .ok (.iaload, 1) := by decide +kernel
theorem dL_law_545 : decode cL_law 545 = .ok (.invokevirtual 61, 3) := by decide +kernel
theorem dL_law_548 : decode cL_law 548 = .ok (.aload_n 2, 1) := by decide +kernel
theorem dL_law_549 : decode cL_law 549 = .ok (.aload_n 0, 1) := by decide +kernel
theorem dL_law_550 : decode cL_law 550 = .ok (.iload 4, 2) := by decide +kernel
theorem dL_law_552 : decode cL_law 552 = .ok (.iconst 1, 1) := by decide +kernel
theorem dL_law_553 : decode cL_law 553 = .ok (.iadd, 1) := by decide +kernel
theorem dL_law_554 : decode cL_law 554 = .ok (.iaload, 1) := by decide +kernel
theorem dL_law_555 : decode cL_law 555 = .ok (.aload_n 0, 1) := by decide +kernel
theorem dL_law_556 : decode cL_law 556 = .ok (.iload 4, 2) := by decide +kernel
theorem dL_law_558 : decode cL_law 558 = .ok (.iconst 2, 1) := by decide +kernel
theorem dL_law_559 : decode cL_law 559 = .ok (.iadd, 1) := by decide +kernel
theorem dL_law_560 : decode cL_law 560 = .ok (.iaload, 1) := by decide +kernel
theorem dL_law_561 : decode cL_law 561 = .ok (.invokevirtual 64, 3) := by decide +kernel
theorem dL_law_564 : decode cL_law 564 = .ok (.if_icmp .eq 245, 3) := by decide +kernel
theorem dL_law_567 : decode cL_law 567 = .ok (.iconst 0, 1) := by decide +kernel
theorem dL_law_568 : decode cL_law 568 = .ok (.ireturn, 1) := by decide +kernel
theorem dL_law_569 : decode cL_law 569 = .ok (.aload_n 1, 1) := by decide +kernel
theorem dL_law_570 : decode cL_law 570 = .ok (.aload_n 0, 1) := by decide +kernel
theorem dL_law_571 : decode cL_law 571 = .ok (.iload 4, 2) := by decide +kernel
theorem dL_law_573 : decode cL_law 573 = .ok (.iconst 1, 1) := by decide +kernel
theorem dL_law_574 : decode cL_law 574 = .ok (.iadd, 1) := by decide +kernel
theorem dL_law_575 : decode cL_law 575 = .ok (.iaload, 1) := by decide +kernel
theorem dL_law_576 : decode cL_law 576 = .ok (.aload_n 0, 1) := by decide +kernel
theorem dL_law_577 : decode cL_law 577 = .ok (.iload 4, 2) := by decide +kernel
theorem dL_law_579 : decode cL_law 579 = .ok (.iconst 2, 1) := by decide +kernel
theorem dL_law_580 : decode cL_law 580 = .ok (.iadd, 1) := by decide +kernel
theorem dL_law_581 : decode cL_law 581 = .ok (.iaload, 1) := by decide +kernel
theorem dL_law_582 : decode cL_law 582 = .ok (.invokevirtual 65, 3) := by decide +kernel
theorem dL_law_585 : decode cL_law 585 = .ok (.aload_n 2, 1) := by decide +kernel
theorem dL_law_586 : decode cL_law 586 = .ok (.aload_n 0, 1) := by decide +kernel
theorem dL_law_587 : decode cL_law 587 = .ok (.iload 4, 2) := by decide +kernel
theorem dL_law_589 : decode cL_law 589 = .ok (.iconst 1, 1) := by decide +kernel
theorem dL_law_590 : decode cL_law 590 = .ok (.iadd, 1) := by decide +kernel
theorem dL_law_591 : decode cL_law 591 = .ok (.iaload, 1) := by decide +kernel
theorem dL_law_592 : decode cL_law 592 = .ok (.aload_n 0, 1) := by decide +kernel
theorem dL_law_593 : decode cL_law 593 = .ok (.iload 4, 2) := by decide +kernel
theorem dL_law_595 : decode cL_law 595 = .ok (.iconst 2, 1) := by decide +kernel
theorem dL_law_596 : decode cL_law 596 = .ok (.iadd, 1) := by decide +kernel
theorem dL_law_597 : decode cL_law 597 = .ok (.iaload, 1) := by decide +kernel
theorem dL_law_598 : decode cL_law 598 = .ok (.invokevirtual 68, 3) := by decide +kernel
theorem dL_law_601 : decode cL_law 601 = .ok (.if_icmp .eq 208, 3) := by decide +kernel
theorem dL_law_604 : decode cL_law 604 = .ok (.iconst 0, 1) := by decide +kernel
theorem dL_law_605 : decode cL_law 605 = .ok (.ireturn, 1) := by decide +kernel
theorem dL_law_606 : decode cL_law 606 = .ok (.aload_n 1, 1) := by decide +kernel
theorem dL_law_607 : decode cL_law 607 = .ok (.aload_n 0, 1) := by decide +kernel
theorem dL_law_608 : decode cL_law 608 = .ok (.iload 4, 2) := by decide +kernel
theorem dL_law_610 : decode cL_law 610 = .ok (.iconst 1, 1) := by decide +kernel
theorem dL_law_611 : decode cL_law 611 = .ok (.iadd, 1) := by decide +kernel
theorem dL_law_612 : decode cL_law 612 = .ok (.iaload, 1) := by decide +kernel
theorem dL_law_613 : decode cL_law 613 = .ok (.aload_n 0, 1) := by decide +kernel
theorem dL_law_614 : decode cL_law 614 = .ok (.iload 4, 2) := by decide +kernel
theorem dL_law_616 : decode cL_law 616 = .ok (.iconst 2, 1) := by decide +kernel
theorem dL_law_617 : decode cL_law 617 = .ok (.iadd, 1) := by decide +kernel
theorem dL_law_618 : decode cL_law 618 = .ok (.iaload, 1) := by decide +kernel
theorem dL_law_619 : decode cL_law 619 = .ok (.aload_n 3, 1) := by decide +kernel
theorem dL_law_620 : decode cL_law 620 = .ok (.invokestatic 69, 3) := by decide +kernel
theorem dL_law_623 : decode cL_law 623 = .ok (.istore 5, 2) := by decide +kernel
theorem dL_law_625 : decode cL_law 625 = .ok (.aload_n 2, 1) := by decide +kernel
theorem dL_law_626 : decode cL_law 626 = .ok (.aload_n 0, 1) := by decide +kernel
theorem dL_law_627 : decode cL_law 627 = .ok (.iload 4, 2) := by decide +kernel
theorem dL_law_629 : decode cL_law 629 = .ok (.iconst 1, 1) := by decide +kernel
theorem dL_law_630 : decode cL_law 630 = .ok (.iadd, 1) := by decide +kernel
theorem dL_law_631 : decode cL_law 631 = .ok (.iaload, 1) := by decide +kernel
theorem dL_law_632 : decode cL_law 632 = .ok (.aload_n 0, 1) := by decide +kernel
theorem dL_law_633 : decode cL_law 633 = .ok (.iload 4, 2) := by decide +kernel
theorem dL_law_635 : decode cL_law 635 = .ok (.iconst 2, 1) := by decide +kernel
theorem dL_law_636 : decode cL_law 636 = .ok (.iadd, 1) := by decide +kernel
theorem dL_law_637 : decode cL_law 637 = .ok (.iaload, 1) := by decide +kernel
theorem dL_law_638 : decode cL_law 638 = .ok (.invokevirtual 74, 3) := by decide +kernel
theorem dL_law_641 : decode cL_law 641 = .ok (.lstore 6, 2) := by decide +kernel
theorem dL_law_643 : decode cL_law 643 = .ok (.aload_n 2, 1) := by decide +kernel
theorem dL_law_644 : decode cL_law 644 = .ok (.invokevirtual 75, 3) := by decide +kernel
theorem dL_law_647 : decode cL_law 647 = .ok (.iload 5, 2) := by decide +kernel
theorem dL_law_649 : decode cL_law 649 = .ok (.if_icmp .eq 5, 3) := by decide +kernel
end
section
theorem dL_law_652 : decode cL_law 652 = .ok (.iconst 0, 1) := by decide +kernel
theorem dL_law_653 : decode cL_law 653 = .ok (.ireturn, 1) := by decide +kernel
theorem dL_law_654 : decode cL_law 654 = .ok (.iload 5, 2) := by decide +kernel
theorem dL_law_656 : decode cL_law 656 = .ok (.ifCond .ne 14, 3) := by decide +kernel
theorem dL_law_659 : decode cL_law 659 = .ok (.aload_n 3, 1) := by decide +kernel
theorem dL_law_660 : decode cL_law 660 = .ok (.iconst 0, 1) := by decide +kernel
theorem dL_law_661 : decode cL_law 661 = .ok (.laload, 1) := by decide +kernel
theorem dL_law_662 : decode cL_law 662 = .ok (.lload 6, 2) := by decide +kernel
theorem dL_law_664 : decode cL_law 664 = .ok (.lcmp, 1) := by decide +kernel
theorem dL_law_665 : decode cL_law 665 = .ok (.ifCond .eq 5, 3) := by decide +kernel
theorem dL_law_668 : decode cL_law 668 = .ok (.iconst 0, 1) := by decide +kernel
theorem dL_law_669 : decode cL_law 669 = .ok (.ireturn, 1) := by decide +kernel
theorem dL_law_670 : decode cL_law 670 = .ok (.goto 139, 3) := by decide +kernel
theorem dL_law_673 : decode cL_law 673 = .ok (.aload_n 1, 1) := by decide +kernel
theorem dL_law_674 : decode cL_law 674 = .ok (.aload_n 0, 1) := by decide +kernel
theorem dL_law_675 : decode cL_law 675 = .ok (.iload 4, 2) := by decide +kernel
theorem dL_law_677 : decode cL_law 677 = .ok (.iconst 1, 1) := by decide +kernel
theorem dL_law_678 : decode cL_law 678 = .ok (.iadd, 1) := by decide +kernel
theorem dL_law_679 : decode cL_law 679 = .ok (.iaload, 1) := by decide +kernel
theorem dL_law_680 : decode cL_law 680 = .ok (.aload_n 0, 1) := by decide +kernel
theorem dL_law_681 : decode cL_law 681 = .ok (.iload 4, 2) := by decide +kernel
theorem dL_law_683 : decode cL_law 683 = .ok (.iconst 2, 1) := by decide +kernel
theorem dL_law_684 : decode cL_law 684 = .ok (.iadd, 1) := by decide +kernel
theorem dL_law_685 : decode cL_law 685 = .ok (.iaload, 1) := by decide +kernel
theorem dL_law_686 : decode cL_law 686 = .ok (.invokevirtual 78, 3) := by decide +kernel
theorem dL_law_689 : decode cL_law 689 = .ok (.aload_n 2, 1) := by decide +kernel
theorem dL_law_690 : decode cL_law 690 = .ok (.aload_n 0, 1) := by decide +kernel
theorem dL_law_691 : decode cL_law 691 = .ok (.iload 4, 2) := by decide +kernel
theorem dL_law_693 : decode cL_law 693 = .ok (.iconst 1, 1) := by decide +kernel
theorem dL_law_694 : decode cL_law 694 = .ok (.iadd, 1) := by decide +kernel
theorem dL_law_695 : decode cL_law 695 = .ok (.iaload, 1) := by decide +kernel
theorem dL_law_696 : decode cL_law 696 = .ok (.aload_n 0, 1) := by decide +kernel
theorem dL_law_697 : decode cL_law 697 = .ok (.iload 4, 2) := by decide +kernel
theorem dL_law_699 : decode cL_law 699 = .ok (.iconst 2, 1) := by decide +kernel
theorem dL_law_700 : decode cL_law 700 = .ok (.iadd, 1) := by decide +kernel
theorem dL_law_701 : decode cL_law 701 = .ok (.iaload, 1) := by decide +kernel
theorem dL_law_702 : decode cL_law 702 = .ok (.invokevirtual 81, 3) := by decide +kernel
theorem dL_law_705 : decode cL_law 705 = .ok (.if_icmp .eq 104, 3) := by decide +kernel
theorem dL_law_708 : decode cL_law 708 = .ok (.iconst 0, 1) := by decide +kernel
theorem dL_law_709 : decode cL_law 709 = .ok (.ireturn, 1) := by decide +kernel
theorem dL_law_710 : decode cL_law 710 = .ok (.aload_n 1, 1) := by decide +kernel
theorem dL_law_711 : decode cL_law 711 = .ok (.aload_n 0, 1) := by decide +kernel
theorem dL_law_712 : decode cL_law 712 = .ok (.iload 4, 2) := by decide +kernel
theorem dL_law_714 : decode cL_law 714 = .ok (.iconst 1, 1) := by decide +kernel
theorem dL_law_715 : decode cL_law 715 = .ok (.iadd, 1) := by decide +kernel
theorem dL_law_716 : decode cL_law 716 = .ok (.iaload, 1) := by decide +kernel
theorem dL_law_717 : decode cL_law 717 = .ok (.aload_n 0, 1) := by decide +kernel
theorem dL_law_718 : decode cL_law 718 = .ok (.iload 4, 2) := by decide +kernel
theorem dL_law_720 : decode cL_law 720 = .ok (.iconst 2, 1) := by decide +kernel
theorem dL_law_721 : decode cL_law 721 = .ok (.iadd, 1) := by decide +kernel
theorem dL_law_722 : decode cL_law 722 = .ok (.iaload, 1) := by decide +kernel
theorem dL_law_723 : decode cL_law 723 = .ok (.invokevirtual 82, 3) := by decide +kernel
theorem dL_law_726 : decode cL_law 726 = .ok (.aload_n 2, 1) := by decide +kernel
theorem dL_law_727 : decode cL_law 727 = .ok (.aload_n 0, 1) := by decide +kernel
theorem dL_law_728 : decode cL_law 728 = .ok (.iload 4, 2) := by decide +kernel
theorem dL_law_730 : decode cL_law 730 = .ok (.iconst 1, 1) := by decide +kernel
theorem dL_law_731 : decode cL_law 731 = .ok (.iadd, 1) := by decide +kernel
theorem dL_law_732 : decode cL_law 732 = .ok (.iaload, 1) := by decide +kernel
theorem dL_law_733 : decode cL_law 733 = .ok (.aload_n 0, 1) := by decide +kernel
theorem dL_law_734 : decode cL_law 734 = .ok (.iload 4, 2) := by decide +kernel
theorem dL_law_736 : decode cL_law 736 = .ok (.iconst 2, 1) := by decide +kernel
theorem dL_law_737 : decode cL_law 737 = .ok (.iadd, 1) := by decide +kernel
theorem dL_law_738 : decode cL_law 738 = .ok (.iaload, 1) := by decide +kernel
theorem dL_law_739 : decode cL_law 739 = .ok (.invokevirtual 85, 3) := by decide +kernel
theorem dL_law_742 : decode cL_law 742 = .ok (.if_icmp .eq 67, 3) := by decide +kernel
theorem dL_law_745 : decode cL_law 745 = .ok (.iconst 0, 1) := by decide +kernel
theorem dL_law_746 : decode cL_law 746 = .ok (.ireturn, 1) := by decide +kernel
theorem dL_law_747 : decode cL_law 747 = .ok (.aload_n 1, 1) := by decide +kernel
theorem dL_law_748 : decode cL_law 748 = .ok (.aload_n 0, 1) := by decide +kernel
theorem dL_law_749 : decode cL_law 749 = .ok (.iload 4, 2) := by decide +kernel
theorem dL_law_751 : decode cL_law 751 = .ok (.iconst 1, 1) := by decide +kernel
theorem dL_law_752 : decode cL_law 752 = .ok (.iadd, 1) := by decide +kernel
theorem dL_law_753 : decode cL_law 753 = .ok (.iaload, 1) := by decide +kernel
theorem dL_law_754 : decode cL_law 754 = .ok (.aload_n 0, 1) := by decide +kernel
theorem dL_law_755 : decode cL_law 755 = .ok (.iload 4, 2) := by decide +kernel
theorem dL_law_757 : decode cL_law 757 = .ok (.iconst 2, 1) := by decide +kernel
theorem dL_law_758 : decode cL_law 758 = .ok (.iadd, 1) := by decide +kernel
theorem dL_law_759 : decode cL_law 759 = .ok (.iaload, 1) := by decide +kernel
theorem dL_law_760 : decode cL_law 760 = .ok (.invokevirtual 86, 3) := by decide +kernel
theorem dL_law_763 : decode cL_law 763 = .ok (.aload_n 2, 1) := by decide +kernel
theorem dL_law_764 : decode cL_law 764 = .ok (.aload_n 0, 1) := by decide +kernel
theorem dL_law_765 : decode cL_law 765 = .ok (.iload 4, 2) := by decide +kernel
theorem dL_law_767 : decode cL_law 767 = .ok (.iconst 1, 1) := by decide +kernel
theorem dL_law_768 : decode cL_law 768 = .ok (.iadd, 1) := by decide +kernel
theorem dL_law_769 : decode cL_law 769 = .ok (.iaload, 1) := by decide +kernel
theorem dL_law_770 : decode cL_law 770 = .ok (.aload_n 0, 1) := by decide +kernel
theorem dL_law_771 : decode cL_law 771 = .ok (.iload 4, 2) := by decide +kernel
theorem dL_law_773 : decode cL_law 773 = .ok (.iconst 2, 1) := by decide +kernel
theorem dL_law_774 : decode cL_law 774 = .ok (.iadd, 1) := by decide +kernel
theorem dL_law_775 : decode cL_law 775 = .ok (.iaload, 1) := by decide +kernel
theorem dL_law_776 : decode cL_law 776 = .ok (.invokevirtual 89, 3) := by decide +kernel
theorem dL_law_779 : decode cL_law 779 = .ok (.if_icmp .eq 30, 3) := by decide +kernel
theorem dL_law_782 : decode cL_law 782 = .ok (.iconst 0, 1) := by decide +kernel
theorem dL_law_783 : decode cL_law 783 = .ok (.ireturn, 1) := by decide +kernel
theorem dL_law_784 : decode cL_law 784 = .ok (.aload_n 1, 1) := by decide +kernel
theorem dL_law_785 : decode cL_law 785 = .ok (.aload_n 0, 1) := by decide +kernel
theorem dL_law_786 : decode cL_law 786 = .ok (.iload 4, 2) := by decide +kernel
theorem dL_law_788 : decode cL_law 788 = .ok (.iconst 1, 1) := by decide +kernel
theorem dL_law_789 : decode cL_law 789 = .ok (.iadd, 1) := by decide +kernel
theorem dL_law_790 : decode cL_law 790 = .ok (.iaload, 1) := by decide +kernel
theorem dL_law_791 : decode cL_law 791 = .ok (.invokevirtual 90, 3) := by decide +kernel
theorem dL_law_794 : decode cL_law 794 = .ok (.aload_n 2, 1) := by decide +kernel
theorem dL_law_795 : decode cL_law 795 = .ok (.aload_n 0, 1) := by decide +kernel
theorem dL_law_796 : decode cL_law 796 = .ok (.iload 4, 2) := by decide +kernel
theorem dL_law_798 : decode cL_law 798 = .ok (.iconst 1, 1) := by decide +kernel
theorem dL_law_799 : decode cL_law 799 = .ok (.iadd, 1) := by decide +kernel
theorem dL_law_800 : decode cL_law 800 = .ok (.iaload, 1) := by decide +kernel
theorem dL_law_801 : decode cL_law 801 = .ok (.invokevirtual 93, 3) := by decide +kernel
theorem dL_law_804 : decode cL_law 804 = .ok (.if_icmp .eq 5, 3) := by decide +kernel
theorem dL_law_807 : decode cL_law 807 = .ok (.iconst 0, 1) := by decide +kernel
theorem dL_law_808 : decode cL_law 808 = .ok (.ireturn, 1) := by decide +kernel
theorem dL_law_809 : decode cL_law 809 = .ok (.iinc 4 7, 3) := by decide +kernel
theorem dL_law_812 : decode cL_law 812 = .ok (.goto (-789), 3) := by decide +kernel
theorem dL_law_815 : decode cL_law 815 = .ok (.iconst 1, 1) := by decide +kernel
theorem dL_law_816 : decode cL_law 816 = .ok (.ireturn, 1) := by decide +kernel
end
section
/-! the walker's words: a world (cells as a list), contracts over it, entry, calls, ends -/
/-- the array classes of the system: int, long, Book, Passage, Scribe -/
def kT (Y : Nat → ClassId) : List (ClassId × FieldType) := [(Y 0, .int), (Y 1, .long), (Y 2, .object RX0), (Y 3, .object RX2), (Y 4, .object RX3)]
/-- the tables' words of the classes, of the arrays, of arrays of references -/
def kK (G : va_G) (Y : Nat → ClassId) (t : State) : Prop := va_K G vwCl (kT Y) t ∧ va_AO RX0 t ∧ va_AO RX2 t ∧ va_AO RX3 t
theorem kK.moved {G : va_G} {Y : Nat → ClassId} {u U : State} (hvm : u.vm.Alike U.vm) (h : kK G Y u) : kK G Y U := ⟨va_K.moved hvm h.1, va_AO.moved hvm h.2.1, va_AO.moved hvm h.2.2.1, va_AO.moved hvm h.2.2.2⟩
abbrev aI (Y : Nat → ClassId) (n : Nat) (f : Nat → Int32) : va_E := .inl (Y 0, n, .inl f)
abbrev aJ (Y : Nat → ClassId) (n : Nat) (f : Nat → Int64) : va_E := .inl (Y 1, n, .inr (.inl f))
abbrev aB (Y : Nat → ClassId) (n : Nat) (f : Nat → Option Nat) : va_E := .inl (Y 2, n, .inr (.inr (.inr (.inr f))))
abbrev aP (Y : Nat → ClassId) (n : Nat) (f : Nat → Option Nat) : va_E := .inl (Y 3, n, .inr (.inr (.inr (.inr f))))
abbrev aS (Y : Nat → ClassId) (n : Nat) (f : Nat → Option Nat) : va_E := .inl (Y 4, n, .inr (.inr (.inr (.inr f))))
def bI (b : Bool) : Int32 := if b then 1 else 0
theorem bI_t : bI true = 1 := rfl
theorem bI_f : bI false = 0 := rfl
/-- the world in a walk -/
def wW (G : va_G) (A : Nat → Prop) (H0 : Heap) (ws : va_W) (H : Heap) (locs : List Loc) : Prop := va_P G vwCl ws H ∧ va_D A ws ∧ va_S A H0 H locs
/-- the world at a method's start and end -/
def wC (G : va_G) (Y : Nat → ClassId) (A : Nat → Prop) (ws : va_W) (t : State) : Prop := va_P G vwCl ws t.heap ∧ kK G Y t ∧ va_D A ws
def cPre (G : va_G) (Y : Nat → ClassId) (av : List Value) (ws : va_W) (sz : Nat) : Array Value → State → Prop := va_Pc av (fun U => U.heap.size = sz ∧ wC G Y (fun _ => True) ws U)
/-- contracts: an int, a long, nothing, a reference or null comes back; the state is told by wf -/
def ctI {S : Type} (l : Launch) (G : va_G) (Y : Nat → ClassId) (wf : S → va_W) (y : MethodName) (ws : List Cond) (rm : Room) (av : List Value) (u : S) (post : Int32 → S → Prop) : Prop :=
  ∀ sz, Met l y ws rm (cPre G Y av (wf u) sz) (va_Qi post (fun u' t => wC G Y (va_A (wf u) sz) (wf u') t) (va_A (wf u) sz)) rm.cells rm.slots (va_A (wf u) sz)
def ctJ {S : Type} (l : Launch) (G : va_G) (Y : Nat → ClassId) (wf : S → va_W) (y : MethodName) (ws : List Cond) (rm : Room) (av : List Value) (u : S) (post : Int64 → S → Prop) : Prop :=
  ∀ sz, Met l y ws rm (cPre G Y av (wf u) sz) (va_Ql post (fun u' t => wC G Y (va_A (wf u) sz) (wf u') t) (va_A (wf u) sz)) rm.cells rm.slots (va_A (wf u) sz)
def ctV {S : Type} (l : Launch) (G : va_G) (Y : Nat → ClassId) (wf : S → va_W) (y : MethodName) (ws : List Cond) (rm : Room) (av : List Value) (u : S) (post : S → Prop) : Prop :=
  ∀ sz, Met l y ws rm (cPre G Y av (wf u) sz) (va_Qv post (fun u' t => wC G Y (va_A (wf u) sz) (wf u') t) (va_A (wf u) sz)) rm.cells rm.slots (va_A (wf u) sz)
def ctQ {S : Type} (l : Launch) (G : va_G) (Y : Nat → ClassId) (wf : S → va_W) (y : MethodName) (ws : List Cond) (rm : Room) (av : List Value) (u : S) (post : Option Nat → S → Prop) : Prop :=
  ∀ sz, Met l y ws rm (cPre G Y av (wf u) sz) (va_Qq post (fun u' t => wC G Y (va_A (wf u) sz) (wf u') t) (va_A (wf u) sz)) rm.cells rm.slots (va_A (wf u) sz)
/-- what a body has at its start -/
def bSt (G : va_G) (Y : Nat → ClassId) (A : Nat → Prop) (ws : va_W) (p : Program) (y : MethodName) (wd : List Cond) (cc : ByteArray) (maxL : Nat) (ret : Option FieldType) (av : List Value) (s : State) (m : MethodId) (meth : Method) (c : Code) (ls : Array Slot) : Prop :=
  CallFix p m c cc maxL s av.toArray wd y.cls ∧ meth.sig.returnType = ret ∧ meth.locks = false ∧ meth.name = y.name ∧ kK G Y s ∧ (∀ q, s.heap.size ≤ q → A q) ∧ wW G A s.heap ws s.heap [] ∧ lv_has ls maxL (lv_args 0 av)
theorem ct_of {l : Launch} {G : va_G} {Y : Nat → ClassId} {ws : va_W} {y : MethodName} {wd wd' : List Cond} {rm : Room} {av : List Value} {Qc : (Nat → Prop) → Array Value → State → Outcome → State → Prop} {cc : ByteArray} {maxL : Nat} {ret : Option FieldType}
    (hy : plainName y.cls = true) (hw : wd = Cond.code y cc maxL ret :: wd') (hlen : (lg_sl av).length ≤ maxL)
    (body : ∀ (A : Nat → Prop) p e s m below meth c ls, bSt G Y A ws p y wd cc maxL ret av s m meth c ls →
      W p l e rm s m av.toArray below meth c s.heap [] 0 0 (MQ below (Qc A) av.toArray s rm.cells rm.slots A) (F0 m 0 ls [])) :
    ∀ sz, Met l y wd rm (cPre G Y av ws sz) (Qc (va_A ws sz)) rm.cells rm.slots (va_A ws sz) := by
  intro sz
  refine Met.ofW (cc := cc) (maxL := maxL) (ret := ret) hy hw ?_
  intro p e s m args below meth c s₁ B hml hv
  obtain ⟨rfl, hsz, hP, hK, hD0⟩ := hv
  have hts := atoms_spec (ws := wd) B.pre
  have hown : s.vm.findClass y.cls = some m.cls := findClass_of_methodNamed B.named
  subst hsz
  have hD := hD0.self (sz := s.heap.size)
  have hl := lv_entry av (n := maxL) hlen
  rw [lg_entry_eq]
  exact body _ p e s m below meth c _ ⟨⟨B.exec, B.bytes, hml, hown, hts⟩, B.returns, B.notSynchronized, (name_of_methodNamed B.named B.method).1, hK, fun q h => Or.inr h, ⟨hP, hD, va_S.rf⟩, hl⟩
section CTS
variable {S : Type} {l : Launch} {G : va_G} {Y : Nat → ClassId} {wf : S → va_W} {y : MethodName} {wd wd' : List Cond} {rm : Room} {av : List Value} {u : S} {cc : ByteArray} {maxL : Nat} {ret : Option FieldType}
theorem ctI.of {post : Int32 → S → Prop} (hy : plainName y.cls = true) (hw : wd = Cond.code y cc maxL ret :: wd') (hlen : (lg_sl av).length ≤ maxL)
    (body : ∀ (A : Nat → Prop) p e s m below meth c ls, bSt G Y A (wf u) p y wd cc maxL ret av s m meth c ls → W p l e rm s m av.toArray below meth c s.heap [] 0 0 (MQ below (va_Qi post (fun u' t => wC G Y A (wf u') t) A) av.toArray s rm.cells rm.slots A) (F0 m 0 ls [])) : ctI l G Y wf y wd rm av u post :=
  ct_of (Qc := fun A => va_Qi post (fun u' t => wC G Y A (wf u') t) A) hy hw hlen body
theorem ctJ.of {post : Int64 → S → Prop} (hy : plainName y.cls = true) (hw : wd = Cond.code y cc maxL ret :: wd') (hlen : (lg_sl av).length ≤ maxL)
    (body : ∀ (A : Nat → Prop) p e s m below meth c ls, bSt G Y A (wf u) p y wd cc maxL ret av s m meth c ls → W p l e rm s m av.toArray below meth c s.heap [] 0 0 (MQ below (va_Ql post (fun u' t => wC G Y A (wf u') t) A) av.toArray s rm.cells rm.slots A) (F0 m 0 ls [])) : ctJ l G Y wf y wd rm av u post :=
  ct_of (Qc := fun A => va_Ql post (fun u' t => wC G Y A (wf u') t) A) hy hw hlen body
theorem ctV.of {post : S → Prop} (hy : plainName y.cls = true) (hw : wd = Cond.code y cc maxL ret :: wd') (hlen : (lg_sl av).length ≤ maxL)
    (body : ∀ (A : Nat → Prop) p e s m below meth c ls, bSt G Y A (wf u) p y wd cc maxL ret av s m meth c ls → W p l e rm s m av.toArray below meth c s.heap [] 0 0 (MQ below (va_Qv post (fun u' t => wC G Y A (wf u') t) A) av.toArray s rm.cells rm.slots A) (F0 m 0 ls [])) : ctV l G Y wf y wd rm av u post :=
  ct_of (Qc := fun A => va_Qv post (fun u' t => wC G Y A (wf u') t) A) hy hw hlen body
theorem ctQ.of {post : Option Nat → S → Prop} (hy : plainName y.cls = true) (hw : wd = Cond.code y cc maxL ret :: wd') (hlen : (lg_sl av).length ≤ maxL)
    (body : ∀ (A : Nat → Prop) p e s m below meth c ls, bSt G Y A (wf u) p y wd cc maxL ret av s m meth c ls → W p l e rm s m av.toArray below meth c s.heap [] 0 0 (MQ below (va_Qq post (fun u' t => wC G Y A (wf u') t) A) av.toArray s rm.cells rm.slots A) (F0 m 0 ls [])) : ctQ l G Y wf y wd rm av u post :=
  ct_of (Qc := fun A => va_Qq post (fun u' t => wC G Y A (wf u') t) A) hy hw hlen body
end CTS
section CTR
variable {S : Type} {p : Program} {l : Launch} {e : Env} {R : Room} {s : State} {m : MethodId} {args : Array Value} {below : List Frame} {meth : Method} {c : Code} {H : Heap} {locs : List Loc} {cells slots mc ms : Nat} {cc : ByteArray} {pc : Nat} {ls : Array Slot} {G : va_G} {Y : Nat → ClassId} {wf : S → va_W} {A : Nat → Prop} {u : S}
theorem ct_iret {post : Int32 → S → Prop} {v : Int32} {ty : FieldType} (hexec : p.tables.exec = Jvm.exec) (hb : c.code = cc) (hr : meth.sig.returnType = some ty) (hn : narrow ty (.int v) = .int v) (hlocks : meth.locks = false) (hK : kK G Y s) (hw : wW G A s.heap (wf u) H locs) (hdg : decode cc pc = .ok (.ireturn, 1)) (h1 : cells ≤ mc) (h2 : slots ≤ ms) (hp : post v u) :
    W p l e R s m args below meth c H locs cells slots (MQ below (va_Qi post (fun u' t => wC G Y A (wf u') t) A) args s mc ms A) (F0 m pc ls [.int v]) := by
  refine W.widen (k := mc) (n := ms) h1 h2 ?_
  exact W.zret hexec hb hr hn (fun t ht hW => ⟨⟨v, u, rfl, hp, by rw [ht]; exact hw.1, kK.moved hW.alike hK, hw.2.1⟩, hw.2.2.F ht⟩) hw.2.2.2.2 hdg hlocks
theorem ct_lret {post : Int64 → S → Prop} {v : Int64} (hexec : p.tables.exec = Jvm.exec) (hb : c.code = cc) (hr : meth.sig.returnType = some .long) (hlocks : meth.locks = false) (hK : kK G Y s) (hw : wW G A s.heap (wf u) H locs) (hdg : decode cc pc = .ok (.lreturn, 1)) (h1 : cells ≤ mc) (h2 : slots ≤ ms) (hp : post v u) :
    W p l e R s m args below meth c H locs cells slots (MQ below (va_Ql post (fun u' t => wC G Y A (wf u') t) A) args s mc ms A) (F0 m pc ls [.long v]) := by
  refine W.widen (k := mc) (n := ms) h1 h2 ?_
  exact W.lret hexec hb hr (fun t ht hW => ⟨⟨v, u, rfl, hp, by rw [ht]; exact hw.1, kK.moved hW.alike hK, hw.2.1⟩, hw.2.2.F ht⟩) hw.2.2.2.2 hdg hlocks
theorem ct_vret {post : S → Prop} (hexec : p.tables.exec = Jvm.exec) (hb : c.code = cc) (hr : meth.sig.returnType = none) (hlocks : meth.locks = false) (hK : kK G Y s) (hw : wW G A s.heap (wf u) H locs) (hdg : decode cc pc = .ok (.return_, 1)) (h1 : cells ≤ mc) (h2 : slots ≤ ms) (hp : post u) :
    W p l e R s m args below meth c H locs cells slots (MQ below (va_Qv post (fun u' t => wC G Y A (wf u') t) A) args s mc ms A) (F0 m pc ls []) := by
  refine W.widen (k := mc) (n := ms) h1 h2 ?_
  exact W.vret hexec hb hr (fun t ht hW => ⟨⟨u, rfl, hp, by rw [ht]; exact hw.1, kK.moved hW.alike hK, hw.2.1⟩, hw.2.2.F ht⟩) hw.2.2.2.2 hdg hlocks
theorem ct_qret {post : Option Nat → S → Prop} {v : Option Nat} {rt : FieldType} (hexec : p.tables.exec = Jvm.exec) (hb : c.code = cc) (hr : meth.sig.returnType = some rt) (hrt : (∃ n, rt = .object n) ∨ ∃ t, rt = .array t) (hlocks : meth.locks = false) (hK : kK G Y s) (hw : wW G A s.heap (wf u) H locs) (hdg : decode cc pc = .ok (.areturn, 1)) (h1 : cells ≤ mc) (h2 : slots ≤ ms) (hp : post v u) :
    W p l e R s m args below meth c H locs cells slots (MQ below (va_Qq post (fun u' t => wC G Y A (wf u') t) A) args s mc ms A) (F0 m pc ls [va_rf v]) := by
  refine W.widen (k := mc) (n := ms) h1 h2 ?_
  exact W.aret hexec hb hr hrt (va_rf_or v) (fun t ht hW => ⟨⟨v, u, rfl, hp, by rw [ht]; exact hw.1, kK.moved hW.alike hK, hw.2.1⟩, hw.2.2.F ht⟩) hw.2.2.2.2 hdg hlocks
end CTR
/-! calls with a part of the world: cw = wr ++ what the callee gets -/
section CTC
variable {S : Type} {p : Program} {l : Launch} {e : Env} {R : Room} {s : State} {m : MethodId} {args : Array Value} {below : List Frame} {meth : Method} {c : Code} {H : Heap} {locs : List Loc} {cells slots : Nat} {Q : State → Prop} {cc : ByteArray} {pc : Nat} {ls : Array Slot} {G : va_G} {Y : Nat → ClassId} {wf : S → va_W} {A : Nat → Prop} {u : S}
variable {y : MethodName} {bytes : ByteArray} {maxL nL n index : Nat} {ret : Option FieldType} {wd : List Cond} {rm : Room} {Ts : List Cond} {own C : String} {b : Addr} {As rest st : List Value} {wr : va_W}
/-- from an appended world: the rest stays -/
theorem wW_split {w1 : va_W} (hw : wW G A s.heap (wr ++ w1) H locs) : va_P G vwCl w1 H ∧ va_D A w1 := by
  refine ⟨fun k q hk => hw.1 (wr.length + k) q ?_, ⟨fun i j x z hi hj hxz => ?_, fun k q hk => hw.2.1.2 (wr.length + k) q ?_⟩⟩
  · rw [List.getElem?_append_right (Nat.le_add_right _ _), Nat.add_sub_cancel_left]; exact hk
  · have := hw.2.1.1 (wr.length + i) (wr.length + j) x z (by rw [List.getElem?_append_right (Nat.le_add_right _ _), Nat.add_sub_cancel_left]; exact hi) (by rw [List.getElem?_append_right (Nat.le_add_right _ _), Nat.add_sub_cancel_left]; exact hj) hxz
    omega
  · rw [List.getElem?_append_right (Nat.le_add_right _ _), Nat.add_sub_cancel_left]; exact hk
theorem wW_free {w1 : va_W} (hA : ∀ q, s.heap.size ≤ q → A q) (hw : wW G A s.heap (wr ++ w1) H locs) : ∀ q, va_A w1 H.size q → A q := by
  intro q hq
  rcases hq with ⟨k, e9, hk⟩ | hq
  · exact (wW_split hw).2.2 k _ hk
  · exact hA q (Nat.le_trans hw.2.2.1 hq)
theorem wW_join {w1 w2 : va_W} {H1 : Heap} {locs1 : List Loc} (hA : ∀ q, s.heap.size ≤ q → A q) (hw : wW G A s.heap (wr ++ w1) H locs) (hk : ∀ q : Nat, q < H.size → ¬ va_A w1 H.size q → H1[q]? = H[q]?) (hP1 : va_P G vwCl w2 H1) (hD1 : va_D (va_A w1 H.size) w2) (hS : va_S A s.heap H1 locs1) : wW G A s.heap (wr ++ w2) H1 locs1 := by
  have hr : ∀ (k : Nat) (q : Nat × va_E), wr[k]? = some q → (wr ++ w1)[k]? = some q := fun k q hk => by
    rw [List.getElem?_append_left (List.getElem?_eq_some_iff.mp hk).1]; exact hk
  have apart : ∀ (k : Nat) (q : Nat × va_E), wr[k]? = some q → q.1 < H.size ∧ ¬ va_A w1 H.size q.1 := by
    intro k q hq
    have hl := (hw.1 k q (hr k q hq)).lt
    refine ⟨hl, fun h => ?_⟩
    rcases h with ⟨k2, e9, h⟩ | h
    · have h4 : (wr ++ w1)[wr.length + k2]? = some (q.1, e9) := by rw [List.getElem?_append_right (Nat.le_add_right _ _), Nat.add_sub_cancel_left]; exact h
      have hij := hw.2.1.1 k (wr.length + k2) q (q.1, e9) (hr k q hq) h4 rfl
      have := (List.getElem?_eq_some_iff.mp hq).1
      omega
    · omega
  refine ⟨va_P.app (fun k q hq => (hw.1 k q (hr k q hq)).kept (hk q.1 (apart k q hq).1 (apart k q hq).2)) hP1, va_D.app ⟨fun i j x z hi hj => hw.2.1.1 i j x z (hr i x hi) (hr j z hj), fun k q hq => hw.2.1.2 k q (hr k q hq)⟩ (hD1.weaken (fun k q _ h => wW_free hA hw q.1 h)) (fun i j x z hx hz hxz => ?_), hS⟩
  exact (apart i x hx).2 (by rw [hxz]; exact hD1.2 j z hz)
theorem cPre_blind {av : List Value} {ws : va_W} {sz : Nat} : FrameBlind (cPre G Y av ws sz) := fun a U g mk q => by
  obtain ⟨q0, q1, qP, qK, qD⟩ := q
  exact ⟨q0, q1, qP, kK.moved (u := U) (U := U.calling g mk a) (Vm.Alike.refl U.vm) qK, qD⟩
theorem cPre_at {av : List Value} (hK : kK G Y s) (hw : wW G A s.heap (wr ++ wf u) H locs) (U : State) (hU : U.heap = H) (hW : s.WarmedH U.vm) : cPre G Y av (wf u) H.size av.toArray U :=
  ⟨rfl, by rw [hU], by rw [hU]; exact (wW_split hw).1, kK.moved hW.alike hK, (wW_split hw).2.weaken (fun _ _ _ _ => trivial)⟩
/-- how a call goes on -/
theorem ct_goi {post : Int32 → S → Prop} {a : Array Value} {st0 : List Value} (hK : kK G Y s) (hw : wW G A s.heap (wr ++ wf u) H locs) (hA : ∀ q, s.heap.size ≤ q → A q) (hr : va_Run p l e R s m args below meth c H locs cells slots rm.cells rm.slots (F0 m pc ls st0) rest (va_Qi post (fun u' t => wC G Y (va_A (wf u) H.size) (wf u') t) (va_A (wf u) H.size) a) (va_A (wf u) H.size))
    (kk : ∀ (r : Int32) (u' : S) (H' : Heap) (locs' : List Loc), post r u' → wW G A s.heap (wr ++ wf u') H' locs' → W p l e R s m args below meth c H' locs' (cells + rm.cells) (slots + rm.slots) Q (F0 m (pc + 3) ls (.int r :: rest))) : W p l e R s m args below meth c H locs cells slots Q (F0 m pc ls st0) :=
  va_calli hr hw.2.2 (fun q _ h => wW_free hA hw q h) (wW_free hA hw) (fun r u' t H1 locs1 ht hvm hp hB hz1 hk1 hS => kk r u' H1 locs1 hp (wW_join hA hw hk1 (by rw [← ht]; exact hB.1) hB.2.2 hS))
theorem ct_goj {post : Int64 → S → Prop} {a : Array Value} {st0 : List Value} (hK : kK G Y s) (hw : wW G A s.heap (wr ++ wf u) H locs) (hA : ∀ q, s.heap.size ≤ q → A q) (hr : va_Run p l e R s m args below meth c H locs cells slots rm.cells rm.slots (F0 m pc ls st0) rest (va_Ql post (fun u' t => wC G Y (va_A (wf u) H.size) (wf u') t) (va_A (wf u) H.size) a) (va_A (wf u) H.size))
    (kk : ∀ (r : Int64) (u' : S) (H' : Heap) (locs' : List Loc), post r u' → wW G A s.heap (wr ++ wf u') H' locs' → W p l e R s m args below meth c H' locs' (cells + rm.cells) (slots + rm.slots) Q (F0 m (pc + 3) ls (.long r :: rest))) : W p l e R s m args below meth c H locs cells slots Q (F0 m pc ls st0) :=
  va_calll hr hw.2.2 (fun q _ h => wW_free hA hw q h) (wW_free hA hw) (fun r u' t H1 locs1 ht hvm hp hB hz1 hk1 hS => kk r u' H1 locs1 hp (wW_join hA hw hk1 (by rw [← ht]; exact hB.1) hB.2.2 hS))
theorem ct_gov {post : S → Prop} {a : Array Value} {st0 : List Value} (hK : kK G Y s) (hw : wW G A s.heap (wr ++ wf u) H locs) (hA : ∀ q, s.heap.size ≤ q → A q) (hr : va_Run p l e R s m args below meth c H locs cells slots rm.cells rm.slots (F0 m pc ls st0) rest (va_Qv post (fun u' t => wC G Y (va_A (wf u) H.size) (wf u') t) (va_A (wf u) H.size) a) (va_A (wf u) H.size))
    (kk : ∀ (u' : S) (H' : Heap) (locs' : List Loc), post u' → wW G A s.heap (wr ++ wf u') H' locs' → W p l e R s m args below meth c H' locs' (cells + rm.cells) (slots + rm.slots) Q (F0 m (pc + 3) ls rest)) : W p l e R s m args below meth c H locs cells slots Q (F0 m pc ls st0) :=
  va_callv hr hw.2.2 (fun q _ h => wW_free hA hw q h) (wW_free hA hw) (fun u' t H1 locs1 ht hvm hp hB hz1 hk1 hS => kk u' H1 locs1 hp (wW_join hA hw hk1 (by rw [← ht]; exact hB.1) hB.2.2 hS))
theorem ct_goq {post : Option Nat → S → Prop} {a : Array Value} {st0 : List Value} (hK : kK G Y s) (hw : wW G A s.heap (wr ++ wf u) H locs) (hA : ∀ q, s.heap.size ≤ q → A q) (hr : va_Run p l e R s m args below meth c H locs cells slots rm.cells rm.slots (F0 m pc ls st0) rest (va_Qq post (fun u' t => wC G Y (va_A (wf u) H.size) (wf u') t) (va_A (wf u) H.size) a) (va_A (wf u) H.size))
    (kk : ∀ (r : Option Nat) (u' : S) (H' : Heap) (locs' : List Loc), post r u' → wW G A s.heap (wr ++ wf u') H' locs' → W p l e R s m args below meth c H' locs' (cells + rm.cells) (slots + rm.slots) Q (F0 m (pc + 3) ls (va_rf r :: rest))) : W p l e R s m args below meth c H locs cells slots Q (F0 m pc ls st0) :=
  va_callq hr hw.2.2 (fun q _ h => wW_free hA hw q h) (wW_free hA hw) (fun r u' t H1 locs1 ht hvm hp hB hz1 hk1 hS => kk r u' H1 locs1 hp (wW_join hA hw hk1 (by rw [← ht]; exact hB.1) hB.2.2 hS))
/-- the run of a call by its contract: of an object, of a class, of a constructor -/
theorem ct_runV {Qc : Array Value → State → Outcome → State → Prop} (F : CallFix p m c cc nL s args Ts own) (hM : Met l y wd rm (cPre G Y (.ref b :: As) (wf u) H.size) Qc rm.cells rm.slots (va_A (wf u) H.size)) (cw : CallW R s args own C index y bytes maxL ret wd rm rm.cells rm.slots n) (hK : kK G Y s) (hw : wW G A s.heap (wr ++ wf u) H locs)
    (hrecv : ∃ cell : Cell, H[b]? = some cell ∧ cell.vm.isStatics = false ∧ s.vm.findClass C = some cell.cls) (hst : st = As.reverse ++ .ref b :: rest) (hn : As.length = n) (hsz : ls.size = nL) (hroom : (rest.map fun v => v.category).sum ≤ 8) (hdg : decode cc pc = .ok (.invokevirtual index, 3)) (hf : cells + rm.cells ≤ R.cells ∧ slots + rm.slots ≤ R.slots) :
    va_Run p l e R s m args below meth c H locs cells slots rm.cells rm.slots (F0 m pc ls st) rest (Qc (Value.ref b :: As).toArray) (va_A (wf u) H.size) :=
  va_runV F hM cw ⟨cPre_blind, hrecv, fun U hU hW => cPre_at hK hw U hU hW⟩ rfl hn hsz hst (lv_room hroom) hdg hf
theorem ct_runS {Qc : Array Value → State → Outcome → State → Prop} (F : CallFix p m c cc nL s args Ts own) (hM : Met l y wd rm (cPre G Y As (wf u) H.size) Qc rm.cells rm.slots (va_A (wf u) H.size)) (cw : CallB R s args own index y bytes maxL ret wd rm rm.cells rm.slots n ∧ (Cond.static y).before args s = true) (hK : kK G Y s) (hw : wW G A s.heap (wr ++ wf u) H locs)
    (hst : st = As.reverse ++ rest) (hn : As.length = n) (hsz : ls.size = nL) (hroom : (rest.map fun v => v.category).sum ≤ 8) (hdg : decode cc pc = .ok (.invokestatic index, 3)) (hf : cells + rm.cells ≤ R.cells ∧ slots + rm.slots ≤ R.slots) :
    va_Run p l e R s m args below meth c H locs cells slots rm.cells rm.slots (F0 m pc ls st) rest (Qc As.toArray) (va_A (wf u) H.size) :=
  va_runS F hM cw ⟨cPre_blind, fun U hU hW => cPre_at hK hw U hU hW⟩ rfl hn hsz hst (lv_room hroom) hdg hf
theorem ct_runI {Qc : Array Value → State → Outcome → State → Prop} (F : CallFix p m c cc nL s args Ts own) (hM : Met l y wd rm (cPre G Y (.ref b :: As) (wf u) H.size) Qc rm.cells rm.slots (va_A (wf u) H.size)) (cw : CallB R s args own index y bytes maxL none wd rm rm.cells rm.slots n ∧ y.name = "<init>" ∧ (Cond.instanceMethod y).before args s = true) (hK : kK G Y s) (hw : wW G A s.heap (wr ++ wf u) H locs)
    (hst : st = As.reverse ++ .ref b :: rest) (hn : As.length = n) (hsz : ls.size = nL) (hroom : (rest.map fun v => v.category).sum ≤ 8) (hdg : decode cc pc = .ok (.invokespecial index, 3)) (hf : cells + rm.cells ≤ R.cells ∧ slots + rm.slots ≤ R.slots) :
    va_Run p l e R s m args below meth c H locs cells slots rm.cells rm.slots (F0 m pc ls st) rest (Qc (Value.ref b :: As).toArray) (va_A (wf u) H.size) :=
  va_runI F hM cw ⟨cPre_blind, fun U hU hW => cPre_at hK hw U hU hW⟩ rfl hn hsz hst (lv_room hroom) hdg hf
end CTC
/-! the same with the whole world, by the contract -/
section CTD
variable {S : Type} {p : Program} {l : Launch} {e : Env} {R : Room} {s : State} {m : MethodId} {args : Array Value} {below : List Frame} {meth : Method} {c : Code} {H : Heap} {locs : List Loc} {cells slots : Nat} {Q : State → Prop} {cc : ByteArray} {pc : Nat} {ls : Array Slot} {G : va_G} {Y : Nat → ClassId} {wf : S → va_W} {A : Nat → Prop} {u : S}
variable {y : MethodName} {bytes : ByteArray} {maxL nL n index : Nat} {ret : Option FieldType} {wd : List Cond} {rm : Room} {Ts : List Cond} {own C : String} {b : Addr} {As rest st : List Value}
theorem ctI.callV {post : Int32 → S → Prop} (hM : ctI l G Y wf y wd rm (.ref b :: As) u post) (F : CallFix p m c cc nL s args Ts own) (cw : CallW R s args own C index y bytes maxL ret wd rm rm.cells rm.slots n) (hK : kK G Y s) (hw : wW G A s.heap (wf u) H locs) (hA : ∀ q, s.heap.size ≤ q → A q)
    (hrecv : ∃ cell : Cell, H[b]? = some cell ∧ cell.vm.isStatics = false ∧ s.vm.findClass C = some cell.cls) (hst : st = As.reverse ++ .ref b :: rest) (hn : As.length = n) (hsz : ls.size = nL) (hroom : (rest.map fun v => v.category).sum ≤ 8) (hdg : decode cc pc = .ok (.invokevirtual index, 3)) (hf : cells + rm.cells ≤ R.cells ∧ slots + rm.slots ≤ R.slots)
    (kk : ∀ (r : Int32) (u' : S) (H' : Heap) (locs' : List Loc), post r u' → wW G A s.heap (wf u') H' locs' → W p l e R s m args below meth c H' locs' (cells + rm.cells) (slots + rm.slots) Q (F0 m (pc + 3) ls (.int r :: rest))) : W p l e R s m args below meth c H locs cells slots Q (F0 m pc ls st) :=
  ct_goi (wr := []) hK hw hA (ct_runV (wr := []) F (hM H.size) cw hK hw hrecv hst hn hsz hroom hdg hf) kk
theorem ctJ.callV {post : Int64 → S → Prop} (hM : ctJ l G Y wf y wd rm (.ref b :: As) u post) (F : CallFix p m c cc nL s args Ts own) (cw : CallW R s args own C index y bytes maxL ret wd rm rm.cells rm.slots n) (hK : kK G Y s) (hw : wW G A s.heap (wf u) H locs) (hA : ∀ q, s.heap.size ≤ q → A q)
    (hrecv : ∃ cell : Cell, H[b]? = some cell ∧ cell.vm.isStatics = false ∧ s.vm.findClass C = some cell.cls) (hst : st = As.reverse ++ .ref b :: rest) (hn : As.length = n) (hsz : ls.size = nL) (hroom : (rest.map fun v => v.category).sum ≤ 8) (hdg : decode cc pc = .ok (.invokevirtual index, 3)) (hf : cells + rm.cells ≤ R.cells ∧ slots + rm.slots ≤ R.slots)
    (kk : ∀ (r : Int64) (u' : S) (H' : Heap) (locs' : List Loc), post r u' → wW G A s.heap (wf u') H' locs' → W p l e R s m args below meth c H' locs' (cells + rm.cells) (slots + rm.slots) Q (F0 m (pc + 3) ls (.long r :: rest))) : W p l e R s m args below meth c H locs cells slots Q (F0 m pc ls st) :=
  ct_goj (wr := []) hK hw hA (ct_runV (wr := []) F (hM H.size) cw hK hw hrecv hst hn hsz hroom hdg hf) kk
theorem ctV.callV {post : S → Prop} (hM : ctV l G Y wf y wd rm (.ref b :: As) u post) (F : CallFix p m c cc nL s args Ts own) (cw : CallW R s args own C index y bytes maxL ret wd rm rm.cells rm.slots n) (hK : kK G Y s) (hw : wW G A s.heap (wf u) H locs) (hA : ∀ q, s.heap.size ≤ q → A q)
    (hrecv : ∃ cell : Cell, H[b]? = some cell ∧ cell.vm.isStatics = false ∧ s.vm.findClass C = some cell.cls) (hst : st = As.reverse ++ .ref b :: rest) (hn : As.length = n) (hsz : ls.size = nL) (hroom : (rest.map fun v => v.category).sum ≤ 8) (hdg : decode cc pc = .ok (.invokevirtual index, 3)) (hf : cells + rm.cells ≤ R.cells ∧ slots + rm.slots ≤ R.slots)
    (kk : ∀ (u' : S) (H' : Heap) (locs' : List Loc), post u' → wW G A s.heap (wf u') H' locs' → W p l e R s m args below meth c H' locs' (cells + rm.cells) (slots + rm.slots) Q (F0 m (pc + 3) ls rest)) : W p l e R s m args below meth c H locs cells slots Q (F0 m pc ls st) :=
  ct_gov (wr := []) hK hw hA (ct_runV (wr := []) F (hM H.size) cw hK hw hrecv hst hn hsz hroom hdg hf) kk
theorem ctQ.callV {post : Option Nat → S → Prop} (hM : ctQ l G Y wf y wd rm (.ref b :: As) u post) (F : CallFix p m c cc nL s args Ts own) (cw : CallW R s args own C index y bytes maxL ret wd rm rm.cells rm.slots n) (hK : kK G Y s) (hw : wW G A s.heap (wf u) H locs) (hA : ∀ q, s.heap.size ≤ q → A q)
    (hrecv : ∃ cell : Cell, H[b]? = some cell ∧ cell.vm.isStatics = false ∧ s.vm.findClass C = some cell.cls) (hst : st = As.reverse ++ .ref b :: rest) (hn : As.length = n) (hsz : ls.size = nL) (hroom : (rest.map fun v => v.category).sum ≤ 8) (hdg : decode cc pc = .ok (.invokevirtual index, 3)) (hf : cells + rm.cells ≤ R.cells ∧ slots + rm.slots ≤ R.slots)
    (kk : ∀ (r : Option Nat) (u' : S) (H' : Heap) (locs' : List Loc), post r u' → wW G A s.heap (wf u') H' locs' → W p l e R s m args below meth c H' locs' (cells + rm.cells) (slots + rm.slots) Q (F0 m (pc + 3) ls (va_rf r :: rest))) : W p l e R s m args below meth c H locs cells slots Q (F0 m pc ls st) :=
  ct_goq (wr := []) hK hw hA (ct_runV (wr := []) F (hM H.size) cw hK hw hrecv hst hn hsz hroom hdg hf) kk
theorem ctI.callS {post : Int32 → S → Prop} (hM : ctI l G Y wf y wd rm As u post) (F : CallFix p m c cc nL s args Ts own) (cw : CallB R s args own index y bytes maxL ret wd rm rm.cells rm.slots n ∧ (Cond.static y).before args s = true) (hK : kK G Y s) (hw : wW G A s.heap (wf u) H locs) (hA : ∀ q, s.heap.size ≤ q → A q)
    (hst : st = As.reverse ++ rest) (hn : As.length = n) (hsz : ls.size = nL) (hroom : (rest.map fun v => v.category).sum ≤ 8) (hdg : decode cc pc = .ok (.invokestatic index, 3)) (hf : cells + rm.cells ≤ R.cells ∧ slots + rm.slots ≤ R.slots)
    (kk : ∀ (r : Int32) (u' : S) (H' : Heap) (locs' : List Loc), post r u' → wW G A s.heap (wf u') H' locs' → W p l e R s m args below meth c H' locs' (cells + rm.cells) (slots + rm.slots) Q (F0 m (pc + 3) ls (.int r :: rest))) : W p l e R s m args below meth c H locs cells slots Q (F0 m pc ls st) :=
  ct_goi (wr := []) hK hw hA (ct_runS (wr := []) F (hM H.size) cw hK hw hst hn hsz hroom hdg hf) kk
theorem ctJ.callS {post : Int64 → S → Prop} (hM : ctJ l G Y wf y wd rm As u post) (F : CallFix p m c cc nL s args Ts own) (cw : CallB R s args own index y bytes maxL ret wd rm rm.cells rm.slots n ∧ (Cond.static y).before args s = true) (hK : kK G Y s) (hw : wW G A s.heap (wf u) H locs) (hA : ∀ q, s.heap.size ≤ q → A q)
    (hst : st = As.reverse ++ rest) (hn : As.length = n) (hsz : ls.size = nL) (hroom : (rest.map fun v => v.category).sum ≤ 8) (hdg : decode cc pc = .ok (.invokestatic index, 3)) (hf : cells + rm.cells ≤ R.cells ∧ slots + rm.slots ≤ R.slots)
    (kk : ∀ (r : Int64) (u' : S) (H' : Heap) (locs' : List Loc), post r u' → wW G A s.heap (wf u') H' locs' → W p l e R s m args below meth c H' locs' (cells + rm.cells) (slots + rm.slots) Q (F0 m (pc + 3) ls (.long r :: rest))) : W p l e R s m args below meth c H locs cells slots Q (F0 m pc ls st) :=
  ct_goj (wr := []) hK hw hA (ct_runS (wr := []) F (hM H.size) cw hK hw hst hn hsz hroom hdg hf) kk
theorem ctV.callI {post : S → Prop} (hM : ctV l G Y wf y wd rm (.ref b :: As) u post) (F : CallFix p m c cc nL s args Ts own) (cw : CallB R s args own index y bytes maxL none wd rm rm.cells rm.slots n ∧ y.name = "<init>" ∧ (Cond.instanceMethod y).before args s = true) (hK : kK G Y s) (hw : wW G A s.heap (wf u) H locs) (hA : ∀ q, s.heap.size ≤ q → A q)
    (hst : st = As.reverse ++ .ref b :: rest) (hn : As.length = n) (hsz : ls.size = nL) (hroom : (rest.map fun v => v.category).sum ≤ 8) (hdg : decode cc pc = .ok (.invokespecial index, 3)) (hf : cells + rm.cells ≤ R.cells ∧ slots + rm.slots ≤ R.slots)
    (kk : ∀ (u' : S) (H' : Heap) (locs' : List Loc), post u' → wW G A s.heap (wf u') H' locs' → W p l e R s m args below meth c H' locs' (cells + rm.cells) (slots + rm.slots) Q (F0 m (pc + 3) ls rest)) : W p l e R s m args below meth c H locs cells slots Q (F0 m pc ls st) :=
  ct_gov (wr := []) hK hw hA (ct_runI (wr := []) F (hM H.size) cw hK hw hst hn hsz hroom hdg hf) kk
/-- a loop, by a measure; cells and slots may grow -/
theorem W_loop {σ : Type} (L : Nat) (I : Nat → σ → Heap → List Loc → Array Slot → Prop)
    (step : ∀ (n : Nat) (x : σ) (H : Heap) (locs : List Loc) (ls : Array Slot), I n x H locs ls → (∀ (n' : Nat) (x' : σ) (H' : Heap) (locs' : List Loc) (ls' : Array Slot), n' < n → I n' x' H' locs' ls' → W p l e R s m args below meth c H' locs' cells slots Q (F0 m L ls' [])) → W p l e R s m args below meth c H locs cells slots Q (F0 m L ls []))
    {n : Nat} {x : σ} (h : I n x H locs ls) : W p l e R s m args below meth c H locs cells slots Q (F0 m L ls []) := by
  have key : ∀ (k n : Nat) (x : σ) (H : Heap) (locs : List Loc) (ls : Array Slot), n < k → I n x H locs ls → W p l e R s m args below meth c H locs cells slots Q (F0 m L ls []) := by
    intro k
    induction k with
    | zero => intro n x H locs ls h; exact absurd h (Nat.not_lt_zero _)
    | succ k ih => intro n x H locs ls hk hI; exact step n x H locs ls hI (fun n' x' H' locs' ls' hn hI' => ih n' x' H' locs' ls' (by omega) hI')
  exact key (n + 1) n x H locs ls (Nat.lt_succ_self n) h
theorem W_loopC {σ : Type} (L : Nat) (I : Nat → σ → Heap → List Loc → Array Slot → Nat → Nat → Prop)
    (step : ∀ (n : Nat) (x : σ) (H : Heap) (locs : List Loc) (ls : Array Slot) (cells slots : Nat), I n x H locs ls cells slots → (∀ (n' : Nat) (x' : σ) (H' : Heap) (locs' : List Loc) (ls' : Array Slot) (cells' slots' : Nat), n' < n → I n' x' H' locs' ls' cells' slots' → W p l e R s m args below meth c H' locs' cells' slots' Q (F0 m L ls' [])) → W p l e R s m args below meth c H locs cells slots Q (F0 m L ls []))
    {n : Nat} {x : σ} (h : I n x H locs ls cells slots) : W p l e R s m args below meth c H locs cells slots Q (F0 m L ls []) := by
  have key : ∀ (k n : Nat) (x : σ) (H : Heap) (locs : List Loc) (ls : Array Slot) (cells slots : Nat), n < k → I n x H locs ls cells slots → W p l e R s m args below meth c H locs cells slots Q (F0 m L ls []) := by
    intro k
    induction k with
    | zero => intro n x H locs ls cells slots h; exact absurd h (Nat.not_lt_zero _)
    | succ k ih => intro n x H locs ls cells slots hk hI; exact step n x H locs ls cells slots hI (fun n' x' H' locs' ls' c' s' hn hI' => ih n' x' H' locs' ls' c' s' (by omega) hI')
  exact key (n + 1) n x H locs ls cells slots (Nat.lt_succ_self n) h
/-- where branches come together with an int on the stack -/
theorem W_joini (J : Nat) (P : Int32 → Prop) (rest : List Value) {g : JFrame} (tail : ∀ v : Int32, P v → W p l e R s m args below meth c H locs cells slots Q (F0 m J ls (.int v :: rest))) (body : (∀ v : Int32, P v → W p l e R s m args below meth c H locs cells slots Q (F0 m J ls (.int v :: rest))) → W p l e R s m args below meth c H locs cells slots Q g) : W p l e R s m args below meth c H locs cells slots Q g := body tail
theorem W_joinl (J : Nat) (P : Int64 → Prop) (rest : List Value) {g : JFrame} (tail : ∀ v : Int64, P v → W p l e R s m args below meth c H locs cells slots Q (F0 m J ls (.long v :: rest))) (body : (∀ v : Int64, P v → W p l e R s m args below meth c H locs cells slots Q (F0 m J ls (.long v :: rest))) → W p l e R s m args below meth c H locs cells slots Q g) : W p l e R s m args below meth c H locs cells slots Q g := body tail
theorem W_join (J : Nat) (P : Prop) (rest : List Value) {g : JFrame} (tail : P → W p l e R s m args below meth c H locs cells slots Q (F0 m J ls rest)) (body : (P → W p l e R s m args below meth c H locs cells slots Q (F0 m J ls rest)) → W p l e R s m args below meth c H locs cells slots Q g) : W p l e R s m args below meth c H locs cells slots Q g := body tail
end CTD
end
section
/-! the reference: its state as a tuple, its cells as a fixed list, a rule for each field and array -/
abbrev cl (i : Int32) : Nat := i.toNatClampNeg
abbrev MS : Type := (Nat → Int32) × (Nat → Int32) × (Nat → Int32) × (Nat → Int64) × (Nat → Int32) × (Nat → Int32) × (Nat → Int32) × (Nat → Int32) × (Nat → Int32) × (Nat → Int32) × Int32
def mW (Y : Nat → ClassId) (x : Nat) (ad : Nat → Nat) : MS → va_W
  | (d, sc, sz, sg, ik, cp, wt, wa, ch, ct, th) => [(x, .inr (5, [.ref (ad 0), .ref (ad 1), .ref (ad 2), .ref (ad 3), .ref (ad 4), .ref (ad 5), .ref (ad 6), .ref (ad 7), .ref (ad 8), .ref (ad 9), .int th])), (ad 0, aI Y 6 d), (ad 1, aI Y 6 sc), (ad 2, aI Y 6 sz), (ad 3, aJ Y 240 sg), (ad 4, aI Y 3 ik), (ad 5, aI Y 3 cp), (ad 6, aI Y 120 wt), (ad 7, aI Y 3 wa), (ad 8, aI Y 64 ch), (ad 9, aI Y 8 ct)]
section MRU
variable {p : Program} {l : Launch} {e : Env} {R : Room} {s : State} {m : MethodId} {args : Array Value} {below : List Frame} {meth : Method} {c : Code} {H : Heap} {locs : List Loc} {cells slots nL : Nat} {Q : State → Prop} {cc : ByteArray} {pc : Nat} {ls : Array Slot} {G : va_G} {Y : Nat → ClassId} {A : Nat → Prop} {Ts : List Cond} {rest : List Value} {x : Nat} {ad : Nat → Nat} {d sc sz ik cp wt wa ch ct : Nat → Int32} {sg : Nat → Int64} {th : Int32} {i : Int32}
theorem m_get0 (F : CallFix p m c cc nL s args Ts RX5) (hi : ∀ w ∈ wsX50, w ∈ Ts) (hl : Cond.fieldLink RX5 7 "ScriptoriumModel" "desk" "[I" ∈ Ts) (hK : kK G Y s) (hw : wW G A s.heap (mW Y x ad (d, sc, sz, sg, ik, cp, wt, wa, ch, ct, th)) H locs) (hdg : decode cc pc = .ok (.getfield 7, 3)) (kk : W p l e R s m args below meth c H locs cells slots Q (F0 m (pc + 3) ls (.ref (ad 0) :: rest))) : W p l e R s m args below meth c H locs cells slots Q (F0 m pc ls (.ref x :: rest)) :=
  va_get (D := G) (ci := 5) (v := .ref (ad 0)) (C := RX5) (T := TX5) (N := 11) F.1 F.2.1 F.2.2.2.2 hi F.2.2.2.1 hK.1 hw.1 0 rfl rfl 0 (by decide) (F.2.2.2.2 _ hl) (fun _ h9 => h9) rfl hdg kk
theorem m_ld0 (F : CallFix p m c cc nL s args Ts RX5) (hK : kK G Y s) (hw : wW G A s.heap (mW Y x ad (d, sc, sz, sg, ik, cp, wt, wa, ch, ct, th)) H locs) (hin : vp_in i 6) (hdg : decode cc pc = .ok (.iaload, 1)) (kk : W p l e R s m args below meth c H locs cells slots Q (F0 m (pc + 1) ls (.int (d (cl i)) :: rest))) : W p l e R s m args below meth c H locs cells slots Q (F0 m pc ls (.int i :: .ref (ad 0) :: rest)) :=
  va_iald F.1 F.2.1 hK.1 hw.1 1 0 rfl rfl hin hdg kk
theorem m_st0 {v : Int32} (F : CallFix p m c cc nL s args Ts RX5) (hK : kK G Y s) (hw : wW G A s.heap (mW Y x ad (d, sc, sz, sg, ik, cp, wt, wa, ch, ct, th)) H locs) (hin : vp_in i 6) (hdg : decode cc pc = .ok (.iastore, 1)) (kk : ∀ (H1 : Heap) (locs1 : List Loc), wW G A s.heap (mW Y x ad (upd d (cl i) v, sc, sz, sg, ik, cp, wt, wa, ch, ct, th)) H1 locs1 → W p l e R s m args below meth c H1 locs1 cells slots Q (F0 m (pc + 1) ls rest)) : W p l e R s m args below meth c H locs cells slots Q (F0 m pc ls (.int v :: .int i :: .ref (ad 0) :: rest)) :=
  va_iast F.1 F.2.1 hK.1 hw.1 hw.2.1 hw.2.2 1 0 rfl rfl hin hdg (fun H1 locs1 hP hD hS => kk H1 locs1 ⟨hP, hD, hS⟩)
theorem m_get1 (F : CallFix p m c cc nL s args Ts RX5) (hi : ∀ w ∈ wsX50, w ∈ Ts) (hl : Cond.fieldLink RX5 13 "ScriptoriumModel" "script" "[I" ∈ Ts) (hK : kK G Y s) (hw : wW G A s.heap (mW Y x ad (d, sc, sz, sg, ik, cp, wt, wa, ch, ct, th)) H locs) (hdg : decode cc pc = .ok (.getfield 13, 3)) (kk : W p l e R s m args below meth c H locs cells slots Q (F0 m (pc + 3) ls (.ref (ad 1) :: rest))) : W p l e R s m args below meth c H locs cells slots Q (F0 m pc ls (.ref x :: rest)) :=
  va_get (D := G) (ci := 5) (v := .ref (ad 1)) (C := RX5) (T := TX5) (N := 11) F.1 F.2.1 F.2.2.2.2 hi F.2.2.2.1 hK.1 hw.1 0 rfl rfl 1 (by decide) (F.2.2.2.2 _ hl) (fun _ h9 => h9) rfl hdg kk
theorem m_ld1 (F : CallFix p m c cc nL s args Ts RX5) (hK : kK G Y s) (hw : wW G A s.heap (mW Y x ad (d, sc, sz, sg, ik, cp, wt, wa, ch, ct, th)) H locs) (hin : vp_in i 6) (hdg : decode cc pc = .ok (.iaload, 1)) (kk : W p l e R s m args below meth c H locs cells slots Q (F0 m (pc + 1) ls (.int (sc (cl i)) :: rest))) : W p l e R s m args below meth c H locs cells slots Q (F0 m pc ls (.int i :: .ref (ad 1) :: rest)) :=
  va_iald F.1 F.2.1 hK.1 hw.1 2 0 rfl rfl hin hdg kk
theorem m_st1 {v : Int32} (F : CallFix p m c cc nL s args Ts RX5) (hK : kK G Y s) (hw : wW G A s.heap (mW Y x ad (d, sc, sz, sg, ik, cp, wt, wa, ch, ct, th)) H locs) (hin : vp_in i 6) (hdg : decode cc pc = .ok (.iastore, 1)) (kk : ∀ (H1 : Heap) (locs1 : List Loc), wW G A s.heap (mW Y x ad (d, upd sc (cl i) v, sz, sg, ik, cp, wt, wa, ch, ct, th)) H1 locs1 → W p l e R s m args below meth c H1 locs1 cells slots Q (F0 m (pc + 1) ls rest)) : W p l e R s m args below meth c H locs cells slots Q (F0 m pc ls (.int v :: .int i :: .ref (ad 1) :: rest)) :=
  va_iast F.1 F.2.1 hK.1 hw.1 hw.2.1 hw.2.2 2 0 rfl rfl hin hdg (fun H1 locs1 hP hD hS => kk H1 locs1 ⟨hP, hD, hS⟩)
theorem m_get2 (F : CallFix p m c cc nL s args Ts RX5) (hi : ∀ w ∈ wsX50, w ∈ Ts) (hl : Cond.fieldLink RX5 16 "ScriptoriumModel" "size" "[I" ∈ Ts) (hK : kK G Y s) (hw : wW G A s.heap (mW Y x ad (d, sc, sz, sg, ik, cp, wt, wa, ch, ct, th)) H locs) (hdg : decode cc pc = .ok (.getfield 16, 3)) (kk : W p l e R s m args below meth c H locs cells slots Q (F0 m (pc + 3) ls (.ref (ad 2) :: rest))) : W p l e R s m args below meth c H locs cells slots Q (F0 m pc ls (.ref x :: rest)) :=
  va_get (D := G) (ci := 5) (v := .ref (ad 2)) (C := RX5) (T := TX5) (N := 11) F.1 F.2.1 F.2.2.2.2 hi F.2.2.2.1 hK.1 hw.1 0 rfl rfl 2 (by decide) (F.2.2.2.2 _ hl) (fun _ h9 => h9) rfl hdg kk
theorem m_ld2 (F : CallFix p m c cc nL s args Ts RX5) (hK : kK G Y s) (hw : wW G A s.heap (mW Y x ad (d, sc, sz, sg, ik, cp, wt, wa, ch, ct, th)) H locs) (hin : vp_in i 6) (hdg : decode cc pc = .ok (.iaload, 1)) (kk : W p l e R s m args below meth c H locs cells slots Q (F0 m (pc + 1) ls (.int (sz (cl i)) :: rest))) : W p l e R s m args below meth c H locs cells slots Q (F0 m pc ls (.int i :: .ref (ad 2) :: rest)) :=
  va_iald F.1 F.2.1 hK.1 hw.1 3 0 rfl rfl hin hdg kk
theorem m_st2 {v : Int32} (F : CallFix p m c cc nL s args Ts RX5) (hK : kK G Y s) (hw : wW G A s.heap (mW Y x ad (d, sc, sz, sg, ik, cp, wt, wa, ch, ct, th)) H locs) (hin : vp_in i 6) (hdg : decode cc pc = .ok (.iastore, 1)) (kk : ∀ (H1 : Heap) (locs1 : List Loc), wW G A s.heap (mW Y x ad (d, sc, upd sz (cl i) v, sg, ik, cp, wt, wa, ch, ct, th)) H1 locs1 → W p l e R s m args below meth c H1 locs1 cells slots Q (F0 m (pc + 1) ls rest)) : W p l e R s m args below meth c H locs cells slots Q (F0 m pc ls (.int v :: .int i :: .ref (ad 2) :: rest)) :=
  va_iast F.1 F.2.1 hK.1 hw.1 hw.2.1 hw.2.2 3 0 rfl rfl hin hdg (fun H1 locs1 hP hD hS => kk H1 locs1 ⟨hP, hD, hS⟩)
theorem m_get3 (F : CallFix p m c cc nL s args Ts RX5) (hi : ∀ w ∈ wsX50, w ∈ Ts) (hl : Cond.fieldLink RX5 19 "ScriptoriumModel" "sign" "[J" ∈ Ts) (hK : kK G Y s) (hw : wW G A s.heap (mW Y x ad (d, sc, sz, sg, ik, cp, wt, wa, ch, ct, th)) H locs) (hdg : decode cc pc = .ok (.getfield 19, 3)) (kk : W p l e R s m args below meth c H locs cells slots Q (F0 m (pc + 3) ls (.ref (ad 3) :: rest))) : W p l e R s m args below meth c H locs cells slots Q (F0 m pc ls (.ref x :: rest)) :=
  va_get (D := G) (ci := 5) (v := .ref (ad 3)) (C := RX5) (T := TX5) (N := 11) F.1 F.2.1 F.2.2.2.2 hi F.2.2.2.1 hK.1 hw.1 0 rfl rfl 3 (by decide) (F.2.2.2.2 _ hl) (fun _ h9 => h9) rfl hdg kk
theorem m_ld3 (F : CallFix p m c cc nL s args Ts RX5) (hK : kK G Y s) (hw : wW G A s.heap (mW Y x ad (d, sc, sz, sg, ik, cp, wt, wa, ch, ct, th)) H locs) (hin : vp_in i 240) (hdg : decode cc pc = .ok (.laload, 1)) (kk : W p l e R s m args below meth c H locs cells slots Q (F0 m (pc + 1) ls (.long (sg (cl i)) :: rest))) : W p l e R s m args below meth c H locs cells slots Q (F0 m pc ls (.int i :: .ref (ad 3) :: rest)) :=
  va_lald F.1 F.2.1 hK.1 hw.1 4 1 rfl rfl hin hdg kk
theorem m_st3 {v : Int64} (F : CallFix p m c cc nL s args Ts RX5) (hK : kK G Y s) (hw : wW G A s.heap (mW Y x ad (d, sc, sz, sg, ik, cp, wt, wa, ch, ct, th)) H locs) (hin : vp_in i 240) (hdg : decode cc pc = .ok (.lastore, 1)) (kk : ∀ (H1 : Heap) (locs1 : List Loc), wW G A s.heap (mW Y x ad (d, sc, sz, vp_updL sg (cl i) v, ik, cp, wt, wa, ch, ct, th)) H1 locs1 → W p l e R s m args below meth c H1 locs1 cells slots Q (F0 m (pc + 1) ls rest)) : W p l e R s m args below meth c H locs cells slots Q (F0 m pc ls (.long v :: .int i :: .ref (ad 3) :: rest)) :=
  va_last F.1 F.2.1 hK.1 hw.1 hw.2.1 hw.2.2 4 1 rfl rfl hin hdg (fun H1 locs1 hP hD hS => kk H1 locs1 ⟨hP, hD, hS⟩)
theorem m_get4 (F : CallFix p m c cc nL s args Ts RX5) (hi : ∀ w ∈ wsX50, w ∈ Ts) (hl : Cond.fieldLink RX5 23 "ScriptoriumModel" "ink" "[I" ∈ Ts) (hK : kK G Y s) (hw : wW G A s.heap (mW Y x ad (d, sc, sz, sg, ik, cp, wt, wa, ch, ct, th)) H locs) (hdg : decode cc pc = .ok (.getfield 23, 3)) (kk : W p l e R s m args below meth c H locs cells slots Q (F0 m (pc + 3) ls (.ref (ad 4) :: rest))) : W p l e R s m args below meth c H locs cells slots Q (F0 m pc ls (.ref x :: rest)) :=
  va_get (D := G) (ci := 5) (v := .ref (ad 4)) (C := RX5) (T := TX5) (N := 11) F.1 F.2.1 F.2.2.2.2 hi F.2.2.2.1 hK.1 hw.1 0 rfl rfl 4 (by decide) (F.2.2.2.2 _ hl) (fun _ h9 => h9) rfl hdg kk
theorem m_ld4 (F : CallFix p m c cc nL s args Ts RX5) (hK : kK G Y s) (hw : wW G A s.heap (mW Y x ad (d, sc, sz, sg, ik, cp, wt, wa, ch, ct, th)) H locs) (hin : vp_in i 3) (hdg : decode cc pc = .ok (.iaload, 1)) (kk : W p l e R s m args below meth c H locs cells slots Q (F0 m (pc + 1) ls (.int (ik (cl i)) :: rest))) : W p l e R s m args below meth c H locs cells slots Q (F0 m pc ls (.int i :: .ref (ad 4) :: rest)) :=
  va_iald F.1 F.2.1 hK.1 hw.1 5 0 rfl rfl hin hdg kk
theorem m_st4 {v : Int32} (F : CallFix p m c cc nL s args Ts RX5) (hK : kK G Y s) (hw : wW G A s.heap (mW Y x ad (d, sc, sz, sg, ik, cp, wt, wa, ch, ct, th)) H locs) (hin : vp_in i 3) (hdg : decode cc pc = .ok (.iastore, 1)) (kk : ∀ (H1 : Heap) (locs1 : List Loc), wW G A s.heap (mW Y x ad (d, sc, sz, sg, upd ik (cl i) v, cp, wt, wa, ch, ct, th)) H1 locs1 → W p l e R s m args below meth c H1 locs1 cells slots Q (F0 m (pc + 1) ls rest)) : W p l e R s m args below meth c H locs cells slots Q (F0 m pc ls (.int v :: .int i :: .ref (ad 4) :: rest)) :=
  va_iast F.1 F.2.1 hK.1 hw.1 hw.2.1 hw.2.2 5 0 rfl rfl hin hdg (fun H1 locs1 hP hD hS => kk H1 locs1 ⟨hP, hD, hS⟩)
theorem m_get5 (F : CallFix p m c cc nL s args Ts RX5) (hi : ∀ w ∈ wsX50, w ∈ Ts) (hl : Cond.fieldLink RX5 26 "ScriptoriumModel" "copied" "[I" ∈ Ts) (hK : kK G Y s) (hw : wW G A s.heap (mW Y x ad (d, sc, sz, sg, ik, cp, wt, wa, ch, ct, th)) H locs) (hdg : decode cc pc = .ok (.getfield 26, 3)) (kk : W p l e R s m args below meth c H locs cells slots Q (F0 m (pc + 3) ls (.ref (ad 5) :: rest))) : W p l e R s m args below meth c H locs cells slots Q (F0 m pc ls (.ref x :: rest)) :=
  va_get (D := G) (ci := 5) (v := .ref (ad 5)) (C := RX5) (T := TX5) (N := 11) F.1 F.2.1 F.2.2.2.2 hi F.2.2.2.1 hK.1 hw.1 0 rfl rfl 5 (by decide) (F.2.2.2.2 _ hl) (fun _ h9 => h9) rfl hdg kk
theorem m_ld5 (F : CallFix p m c cc nL s args Ts RX5) (hK : kK G Y s) (hw : wW G A s.heap (mW Y x ad (d, sc, sz, sg, ik, cp, wt, wa, ch, ct, th)) H locs) (hin : vp_in i 3) (hdg : decode cc pc = .ok (.iaload, 1)) (kk : W p l e R s m args below meth c H locs cells slots Q (F0 m (pc + 1) ls (.int (cp (cl i)) :: rest))) : W p l e R s m args below meth c H locs cells slots Q (F0 m pc ls (.int i :: .ref (ad 5) :: rest)) :=
  va_iald F.1 F.2.1 hK.1 hw.1 6 0 rfl rfl hin hdg kk
theorem m_st5 {v : Int32} (F : CallFix p m c cc nL s args Ts RX5) (hK : kK G Y s) (hw : wW G A s.heap (mW Y x ad (d, sc, sz, sg, ik, cp, wt, wa, ch, ct, th)) H locs) (hin : vp_in i 3) (hdg : decode cc pc = .ok (.iastore, 1)) (kk : ∀ (H1 : Heap) (locs1 : List Loc), wW G A s.heap (mW Y x ad (d, sc, sz, sg, ik, upd cp (cl i) v, wt, wa, ch, ct, th)) H1 locs1 → W p l e R s m args below meth c H1 locs1 cells slots Q (F0 m (pc + 1) ls rest)) : W p l e R s m args below meth c H locs cells slots Q (F0 m pc ls (.int v :: .int i :: .ref (ad 5) :: rest)) :=
  va_iast F.1 F.2.1 hK.1 hw.1 hw.2.1 hw.2.2 6 0 rfl rfl hin hdg (fun H1 locs1 hP hD hS => kk H1 locs1 ⟨hP, hD, hS⟩)
theorem m_get6 (F : CallFix p m c cc nL s args Ts RX5) (hi : ∀ w ∈ wsX50, w ∈ Ts) (hl : Cond.fieldLink RX5 29 "ScriptoriumModel" "wait" "[I" ∈ Ts) (hK : kK G Y s) (hw : wW G A s.heap (mW Y x ad (d, sc, sz, sg, ik, cp, wt, wa, ch, ct, th)) H locs) (hdg : decode cc pc = .ok (.getfield 29, 3)) (kk : W p l e R s m args below meth c H locs cells slots Q (F0 m (pc + 3) ls (.ref (ad 6) :: rest))) : W p l e R s m args below meth c H locs cells slots Q (F0 m pc ls (.ref x :: rest)) :=
  va_get (D := G) (ci := 5) (v := .ref (ad 6)) (C := RX5) (T := TX5) (N := 11) F.1 F.2.1 F.2.2.2.2 hi F.2.2.2.1 hK.1 hw.1 0 rfl rfl 6 (by decide) (F.2.2.2.2 _ hl) (fun _ h9 => h9) rfl hdg kk
theorem m_ld6 (F : CallFix p m c cc nL s args Ts RX5) (hK : kK G Y s) (hw : wW G A s.heap (mW Y x ad (d, sc, sz, sg, ik, cp, wt, wa, ch, ct, th)) H locs) (hin : vp_in i 120) (hdg : decode cc pc = .ok (.iaload, 1)) (kk : W p l e R s m args below meth c H locs cells slots Q (F0 m (pc + 1) ls (.int (wt (cl i)) :: rest))) : W p l e R s m args below meth c H locs cells slots Q (F0 m pc ls (.int i :: .ref (ad 6) :: rest)) :=
  va_iald F.1 F.2.1 hK.1 hw.1 7 0 rfl rfl hin hdg kk
theorem m_st6 {v : Int32} (F : CallFix p m c cc nL s args Ts RX5) (hK : kK G Y s) (hw : wW G A s.heap (mW Y x ad (d, sc, sz, sg, ik, cp, wt, wa, ch, ct, th)) H locs) (hin : vp_in i 120) (hdg : decode cc pc = .ok (.iastore, 1)) (kk : ∀ (H1 : Heap) (locs1 : List Loc), wW G A s.heap (mW Y x ad (d, sc, sz, sg, ik, cp, upd wt (cl i) v, wa, ch, ct, th)) H1 locs1 → W p l e R s m args below meth c H1 locs1 cells slots Q (F0 m (pc + 1) ls rest)) : W p l e R s m args below meth c H locs cells slots Q (F0 m pc ls (.int v :: .int i :: .ref (ad 6) :: rest)) :=
  va_iast F.1 F.2.1 hK.1 hw.1 hw.2.1 hw.2.2 7 0 rfl rfl hin hdg (fun H1 locs1 hP hD hS => kk H1 locs1 ⟨hP, hD, hS⟩)
theorem m_get7 (F : CallFix p m c cc nL s args Ts RX5) (hi : ∀ w ∈ wsX50, w ∈ Ts) (hl : Cond.fieldLink RX5 32 "ScriptoriumModel" "waits" "[I" ∈ Ts) (hK : kK G Y s) (hw : wW G A s.heap (mW Y x ad (d, sc, sz, sg, ik, cp, wt, wa, ch, ct, th)) H locs) (hdg : decode cc pc = .ok (.getfield 32, 3)) (kk : W p l e R s m args below meth c H locs cells slots Q (F0 m (pc + 3) ls (.ref (ad 7) :: rest))) : W p l e R s m args below meth c H locs cells slots Q (F0 m pc ls (.ref x :: rest)) :=
  va_get (D := G) (ci := 5) (v := .ref (ad 7)) (C := RX5) (T := TX5) (N := 11) F.1 F.2.1 F.2.2.2.2 hi F.2.2.2.1 hK.1 hw.1 0 rfl rfl 7 (by decide) (F.2.2.2.2 _ hl) (fun _ h9 => h9) rfl hdg kk
theorem m_ld7 (F : CallFix p m c cc nL s args Ts RX5) (hK : kK G Y s) (hw : wW G A s.heap (mW Y x ad (d, sc, sz, sg, ik, cp, wt, wa, ch, ct, th)) H locs) (hin : vp_in i 3) (hdg : decode cc pc = .ok (.iaload, 1)) (kk : W p l e R s m args below meth c H locs cells slots Q (F0 m (pc + 1) ls (.int (wa (cl i)) :: rest))) : W p l e R s m args below meth c H locs cells slots Q (F0 m pc ls (.int i :: .ref (ad 7) :: rest)) :=
  va_iald F.1 F.2.1 hK.1 hw.1 8 0 rfl rfl hin hdg kk
theorem m_st7 {v : Int32} (F : CallFix p m c cc nL s args Ts RX5) (hK : kK G Y s) (hw : wW G A s.heap (mW Y x ad (d, sc, sz, sg, ik, cp, wt, wa, ch, ct, th)) H locs) (hin : vp_in i 3) (hdg : decode cc pc = .ok (.iastore, 1)) (kk : ∀ (H1 : Heap) (locs1 : List Loc), wW G A s.heap (mW Y x ad (d, sc, sz, sg, ik, cp, wt, upd wa (cl i) v, ch, ct, th)) H1 locs1 → W p l e R s m args below meth c H1 locs1 cells slots Q (F0 m (pc + 1) ls rest)) : W p l e R s m args below meth c H locs cells slots Q (F0 m pc ls (.int v :: .int i :: .ref (ad 7) :: rest)) :=
  va_iast F.1 F.2.1 hK.1 hw.1 hw.2.1 hw.2.2 8 0 rfl rfl hin hdg (fun H1 locs1 hP hD hS => kk H1 locs1 ⟨hP, hD, hS⟩)
theorem m_get8 (F : CallFix p m c cc nL s args Ts RX5) (hi : ∀ w ∈ wsX50, w ∈ Ts) (hl : Cond.fieldLink RX5 35 "ScriptoriumModel" "chronicle" "[I" ∈ Ts) (hK : kK G Y s) (hw : wW G A s.heap (mW Y x ad (d, sc, sz, sg, ik, cp, wt, wa, ch, ct, th)) H locs) (hdg : decode cc pc = .ok (.getfield 35, 3)) (kk : W p l e R s m args below meth c H locs cells slots Q (F0 m (pc + 3) ls (.ref (ad 8) :: rest))) : W p l e R s m args below meth c H locs cells slots Q (F0 m pc ls (.ref x :: rest)) :=
  va_get (D := G) (ci := 5) (v := .ref (ad 8)) (C := RX5) (T := TX5) (N := 11) F.1 F.2.1 F.2.2.2.2 hi F.2.2.2.1 hK.1 hw.1 0 rfl rfl 8 (by decide) (F.2.2.2.2 _ hl) (fun _ h9 => h9) rfl hdg kk
theorem m_ld8 (F : CallFix p m c cc nL s args Ts RX5) (hK : kK G Y s) (hw : wW G A s.heap (mW Y x ad (d, sc, sz, sg, ik, cp, wt, wa, ch, ct, th)) H locs) (hin : vp_in i 64) (hdg : decode cc pc = .ok (.iaload, 1)) (kk : W p l e R s m args below meth c H locs cells slots Q (F0 m (pc + 1) ls (.int (ch (cl i)) :: rest))) : W p l e R s m args below meth c H locs cells slots Q (F0 m pc ls (.int i :: .ref (ad 8) :: rest)) :=
  va_iald F.1 F.2.1 hK.1 hw.1 9 0 rfl rfl hin hdg kk
theorem m_st8 {v : Int32} (F : CallFix p m c cc nL s args Ts RX5) (hK : kK G Y s) (hw : wW G A s.heap (mW Y x ad (d, sc, sz, sg, ik, cp, wt, wa, ch, ct, th)) H locs) (hin : vp_in i 64) (hdg : decode cc pc = .ok (.iastore, 1)) (kk : ∀ (H1 : Heap) (locs1 : List Loc), wW G A s.heap (mW Y x ad (d, sc, sz, sg, ik, cp, wt, wa, upd ch (cl i) v, ct, th)) H1 locs1 → W p l e R s m args below meth c H1 locs1 cells slots Q (F0 m (pc + 1) ls rest)) : W p l e R s m args below meth c H locs cells slots Q (F0 m pc ls (.int v :: .int i :: .ref (ad 8) :: rest)) :=
  va_iast F.1 F.2.1 hK.1 hw.1 hw.2.1 hw.2.2 9 0 rfl rfl hin hdg (fun H1 locs1 hP hD hS => kk H1 locs1 ⟨hP, hD, hS⟩)
theorem m_get9 (F : CallFix p m c cc nL s args Ts RX5) (hi : ∀ w ∈ wsX50, w ∈ Ts) (hl : Cond.fieldLink RX5 38 "ScriptoriumModel" "counts" "[I" ∈ Ts) (hK : kK G Y s) (hw : wW G A s.heap (mW Y x ad (d, sc, sz, sg, ik, cp, wt, wa, ch, ct, th)) H locs) (hdg : decode cc pc = .ok (.getfield 38, 3)) (kk : W p l e R s m args below meth c H locs cells slots Q (F0 m (pc + 3) ls (.ref (ad 9) :: rest))) : W p l e R s m args below meth c H locs cells slots Q (F0 m pc ls (.ref x :: rest)) :=
  va_get (D := G) (ci := 5) (v := .ref (ad 9)) (C := RX5) (T := TX5) (N := 11) F.1 F.2.1 F.2.2.2.2 hi F.2.2.2.1 hK.1 hw.1 0 rfl rfl 9 (by decide) (F.2.2.2.2 _ hl) (fun _ h9 => h9) rfl hdg kk
theorem m_ld9 (F : CallFix p m c cc nL s args Ts RX5) (hK : kK G Y s) (hw : wW G A s.heap (mW Y x ad (d, sc, sz, sg, ik, cp, wt, wa, ch, ct, th)) H locs) (hin : vp_in i 8) (hdg : decode cc pc = .ok (.iaload, 1)) (kk : W p l e R s m args below meth c H locs cells slots Q (F0 m (pc + 1) ls (.int (ct (cl i)) :: rest))) : W p l e R s m args below meth c H locs cells slots Q (F0 m pc ls (.int i :: .ref (ad 9) :: rest)) :=
  va_iald F.1 F.2.1 hK.1 hw.1 10 0 rfl rfl hin hdg kk
theorem m_st9 {v : Int32} (F : CallFix p m c cc nL s args Ts RX5) (hK : kK G Y s) (hw : wW G A s.heap (mW Y x ad (d, sc, sz, sg, ik, cp, wt, wa, ch, ct, th)) H locs) (hin : vp_in i 8) (hdg : decode cc pc = .ok (.iastore, 1)) (kk : ∀ (H1 : Heap) (locs1 : List Loc), wW G A s.heap (mW Y x ad (d, sc, sz, sg, ik, cp, wt, wa, ch, upd ct (cl i) v, th)) H1 locs1 → W p l e R s m args below meth c H1 locs1 cells slots Q (F0 m (pc + 1) ls rest)) : W p l e R s m args below meth c H locs cells slots Q (F0 m pc ls (.int v :: .int i :: .ref (ad 9) :: rest)) :=
  va_iast F.1 F.2.1 hK.1 hw.1 hw.2.1 hw.2.2 10 0 rfl rfl hin hdg (fun H1 locs1 hP hD hS => kk H1 locs1 ⟨hP, hD, hS⟩)
theorem m_get10 (F : CallFix p m c cc nL s args Ts RX5) (hi : ∀ w ∈ wsX50, w ∈ Ts) (hl : Cond.fieldLink RX5 41 "ScriptoriumModel" "thrown" "I" ∈ Ts) (hK : kK G Y s) (hw : wW G A s.heap (mW Y x ad (d, sc, sz, sg, ik, cp, wt, wa, ch, ct, th)) H locs) (hdg : decode cc pc = .ok (.getfield 41, 3)) (kk : W p l e R s m args below meth c H locs cells slots Q (F0 m (pc + 3) ls (.int th :: rest))) : W p l e R s m args below meth c H locs cells slots Q (F0 m pc ls (.ref x :: rest)) :=
  va_get (D := G) (ci := 5) (v := .int th) (C := RX5) (T := TX5) (N := 11) F.1 F.2.1 F.2.2.2.2 hi F.2.2.2.1 hK.1 hw.1 0 rfl rfl 10 (by decide) (F.2.2.2.2 _ hl) (fun _ h9 => h9) rfl hdg kk
theorem m_put10 {v : Int32} (F : CallFix p m c cc nL s args Ts RX5) (hi : ∀ w ∈ wsX50, w ∈ Ts) (hl : Cond.fieldLink RX5 41 "ScriptoriumModel" "thrown" "I" ∈ Ts) (hK : kK G Y s) (hw : wW G A s.heap (mW Y x ad (d, sc, sz, sg, ik, cp, wt, wa, ch, ct, th)) H locs) (hdg : decode cc pc = .ok (.putfield 41, 3)) (kk : ∀ (H1 : Heap) (locs1 : List Loc), wW G A s.heap (mW Y x ad (d, sc, sz, sg, ik, cp, wt, wa, ch, ct, v)) H1 locs1 → W p l e R s m args below meth c H1 locs1 cells slots Q (F0 m (pc + 3) ls rest)) : W p l e R s m args below meth c H locs cells slots Q (F0 m pc ls (.int v :: .ref x :: rest)) :=
  va_put (D := G) (ci := 5) (v := .int v) (ty := .int) (C := RX5) (T := TX5) (N := 11) F.1 F.2.1 F.2.2.2.2 hi tyX5 tyX5_ok nmX5 F.2.2.2.1 hK.1 hw.1 hw.2.1 hw.2.2 0 rfl rfl 10 (by decide) (F.2.2.2.2 _ hl) (fun _ h9 => h9) rfl (by decide +kernel) rfl rfl (Nat.le_of_ble_eq_true rfl) hdg (fun H1 locs1 hP hD hS => kk H1 locs1 ⟨hP, hD, hS⟩)
theorem m_recv (hK : kK G Y s) (hw : wW G A s.heap (mW Y x ad (d, sc, sz, sg, ik, cp, wt, wa, ch, ct, th)) H locs) : ∃ cell : Cell, H[x]? = some cell ∧ cell.vm.isStatics = false ∧ s.vm.findClass RX5 = some cell.cls := va_recv hK.1 hw.1 (ci := 5) (q0 := 0) rfl rfl
end MRU
end
section
/-! the class's world: a pure heap (addresses, and what lies at each) -/
abbrev PH : Type := List Nat × (Nat → va_E)
def pw (h : PH) : va_W := va_pl h.1 h.2
def pAt (h : PH) (a : Nat) (e : va_E) : Prop := a ∈ h.1 ∧ h.2 a = e
def pSet (h : PH) (a : Nat) (e : va_E) : PH := (h.1, va_up h.2 a e)
def pNew (h : PH) (a : Nat) (e : va_E) : PH := (h.1 ++ [a], va_up h.2 a e)
theorem pAt.same {h : PH} {a : Nat} {e e' : va_E} (H : pAt h a e) : pAt (pSet h a e') a e' := ⟨H.1, by simp [pSet, va_up]⟩
theorem pAt.ne {h : PH} {a b : Nat} {e e' : va_E} (H : pAt h b e) (n : b ≠ a) : pAt (pSet h a e') b e := ⟨H.1, by simp [pSet, va_up, n]; exact H.2⟩
theorem pAt.old {h : PH} {a b : Nat} {e e' : va_E} (H : pAt h b e) (n : a ∉ h.1) : pAt (pNew h a e') b e := ⟨List.mem_append_left _ H.1, by
  have hn : b ≠ a := fun q => n (q ▸ H.1)
  simp [pNew, va_up, hn]; exact H.2⟩
theorem pAt.new {h : PH} {a : Nat} {e : va_E} : pAt (pNew h a e) a e := ⟨List.mem_append_right _ (List.mem_singleton.mpr rfl), by simp [pNew, va_up]⟩
theorem pAt.apart {h : PH} {a b : Nat} {e e' : va_E} (H : pAt h a e) (H' : pAt h b e') (n : e ≠ e') : a ≠ b := fun q => n (by rw [← H.2, ← H'.2, q])
theorem pAt.get {h : PH} {a : Nat} {e : va_E} (H : pAt h a e) : ∃ k : Nat, (pw h)[k]? = some (a, e) := by
  obtain ⟨k, hk⟩ := va_pl_get (X := []) (f := h.2) H.1
  exact ⟨k, by rw [← H.2]; exact hk⟩
theorem pw_set {A : Nat → Prop} {h : PH} {a k : Nat} {e0 e : va_E} (hD : va_D A (pw h)) (H : pAt h a e0) (hk : (pw h)[k]? = some (a, e0)) : (pw h).set k (a, e) = pw (pSet h a e) := by
  have := va_pl_set (X := []) (e := e) (L := h.1) (f := h.2) (a := a) (k := k) hD H.1 (by rw [H.2]; exact hk)
  exact this
theorem pw_fresh {A : Nat → Prop} {h : PH} {q : Nat} {e : va_E} (hD : va_D A (pw h ++ [(q, e)])) : q ∉ h.1 := va_pl_fresh2 (X := []) hD
theorem pw_push {h : PH} {q : Nat} {e : va_E} (hq : q ∉ h.1) : pw h ++ [(q, e)] = pw (pNew h q e) := va_pl_push hq
abbrev oBook (sc : Int32) (v so : Nat) : va_E := .inr (0, [.int sc, .ref v, .ref so])
abbrev oChr (a b c d : Nat) (nx he : Int32) : va_E := .inr (1, [.ref a, .ref b, .ref c, .ref d, .int nx, .int he])
abbrev oPas (s a i b j n : Int32) : va_E := .inr (2, [.int s, .int a, .int i, .int b, .int j, .int n])
abbrev oScr (ink cop wai : Int32) (od : Nat) : va_E := .inr (3, [.int ink, .int cop, .int wai, .ref od])
abbrev oX (no ro de sc la ta : Nat) : va_E := .inr (4, [.ref no, .ref ro, .ref de, .ref sc, .ref la, .ref ta])
section PHR
variable {p : Program} {l : Launch} {e : Env} {R : Room} {s : State} {m : MethodId} {args : Array Value} {below : List Frame} {meth : Method} {c : Code} {H : Heap} {locs : List Loc} {cells slots nL : Nat} {Q : State → Prop} {cc : ByteArray} {pc : Nat} {ls : Array Slot} {G : va_G} {Y : Nat → ClassId} {A : Nat → Prop} {Ts : List Cond} {rest : List Value} {h : PH} {a : Nat} {own C : String} {T : u_T} {N ci index n : Nat} {fs fs' : List Value} {v : Value} {i : Int32}
theorem p_recv (hK : kK G Y s) (hw : wW G A s.heap (pw h) H locs) (ha : pAt h a (.inr (ci, fs))) (hc : vwCl[ci]? = some (C, T, N)) : ∃ cell : Cell, H[a]? = some cell ∧ cell.vm.isStatics = false ∧ s.vm.findClass C = some cell.cls := by
  obtain ⟨k, hk⟩ := ha.get
  exact va_recv hK.1 hw.1 (q := (C, T, N)) hc hk
theorem p_get (k : Nat) (F : CallFix p m c cc nL s args Ts own) (hc : vwCl[ci]? = some (C, T, N)) (hi : ∀ w ∈ u_ws C T N, w ∈ Ts) (hl : Cond.fieldLink own index (T k).1 (T k).2.1 (T k).2.2.1 ∈ Ts) (hk : k < N) (hK : kK G Y s) (hw : wW G A s.heap (pw h) H locs) (ha : pAt h a (.inr (ci, fs))) (hv : fs[k]? = some v) (hdg : decode cc pc = .ok (.getfield index, 3))
    (kk : W p l e R s m args below meth c H locs cells slots Q (F0 m (pc + 3) ls (v :: rest))) : W p l e R s m args below meth c H locs cells slots Q (F0 m pc ls (.ref a :: rest)) := by
  obtain ⟨q0, hq⟩ := ha.get
  exact va_get (D := G) (C := C) (T := T) (N := N) F.1 F.2.1 F.2.2.2.2 hi F.2.2.2.1 hK.1 hw.1 q0 hq hc k hk (F.2.2.2.2 _ hl) (fun _ h9 => h9) hv hdg kk
theorem p_put (k : Nat) {ty0 : Nat → FieldType} {ty : FieldType} (F : CallFix p m c cc nL s args Ts own) (hc : vwCl[ci]? = some (C, T, N)) (hi : ∀ w ∈ u_ws C T N, w ∈ Ts) (hty : ∀ k, k < N → parseFieldDescriptor (T k).2.2.1 = some (ty0 k)) (hnm : ∀ a, a < N → ∀ b, b < N → a ≠ b → (T a).2.1 ≠ (T b).2.1) (hl : Cond.fieldLink own index (T k).1 (T k).2.1 (T k).2.2.1 ∈ Ts) (hk : k < N) (hfin : (T k).2.2.2 = false) (hd : parseFieldDescriptor (T k).2.2.1 = some ty) (hn : narrow ty v = v) (hfit : fits ty v = true) (hlen : k < fs.length)
    (hK : kK G Y s) (hw : wW G A s.heap (pw h) H locs) (ha : pAt h a (.inr (ci, fs))) (hfs : fs.set k v = fs') (hdg : decode cc pc = .ok (.putfield index, 3))
    (kk : ∀ (H1 : Heap) (locs1 : List Loc), wW G A s.heap (pw (pSet h a (.inr (ci, fs')))) H1 locs1 → W p l e R s m args below meth c H1 locs1 cells slots Q (F0 m (pc + 3) ls rest)) : W p l e R s m args below meth c H locs cells slots Q (F0 m pc ls (v :: .ref a :: rest)) := by
  obtain ⟨q0, hq⟩ := ha.get
  subst hfs
  refine va_put (D := G) (C := C) (T := T) (N := N) F.1 F.2.1 F.2.2.2.2 hi ty0 hty hnm F.2.2.2.1 hK.1 hw.1 hw.2.1 hw.2.2 q0 hq hc k hk (F.2.2.2.2 _ hl) (fun _ h9 => h9) hfin hd hn hfit hlen hdg (fun H1 locs1 hP hD hS => ?_)
  rw [pw_set hw.2.1 ha hq] at hP hD
  exact kk H1 locs1 ⟨hP, hD, hS⟩
theorem p_putF (k : Nat) {ty0 : Nat → FieldType} {ty : FieldType} (F : CallFix p m c cc nL s args Ts own) (hc : vwCl[ci]? = some (C, T, N)) (hi : ∀ w ∈ u_ws C T N, w ∈ Ts) (hty : ∀ k, k < N → parseFieldDescriptor (T k).2.2.1 = some (ty0 k)) (hnm : ∀ a, a < N → ∀ b, b < N → a ≠ b → (T a).2.1 ≠ (T b).2.1) (hl : Cond.fieldLink own index (T k).1 (T k).2.1 (T k).2.2.1 ∈ Ts) (hk : k < N) (hfin : (T k).2.2.2 = true) (hin2 : meth.name = "<init>") (hdecl : (T k).1 = own) (hd : parseFieldDescriptor (T k).2.2.1 = some ty) (hn : narrow ty v = v) (hfit : fits ty v = true) (hlen : k < fs.length)
    (hK : kK G Y s) (hw : wW G A s.heap (pw h) H locs) (ha : pAt h a (.inr (ci, fs))) (hfs : fs.set k v = fs') (hdg : decode cc pc = .ok (.putfield index, 3))
    (kk : ∀ (H1 : Heap) (locs1 : List Loc), wW G A s.heap (pw (pSet h a (.inr (ci, fs')))) H1 locs1 → W p l e R s m args below meth c H1 locs1 cells slots Q (F0 m (pc + 3) ls rest)) : W p l e R s m args below meth c H locs cells slots Q (F0 m pc ls (v :: .ref a :: rest)) := by
  obtain ⟨q0, hq⟩ := ha.get
  subst hfs
  refine va_putF (D := G) (C := C) (T := T) (N := N) F.1 F.2.1 F.2.2.2.2 hi ty0 hty hnm F.2.2.2.1 hK.1 hw.1 hw.2.1 hw.2.2 q0 hq hc k hk (F.2.2.2.2 _ hl) (fun _ h9 => h9) hfin hin2 hdecl hd hn hfit hlen hdg (fun H1 locs1 hP hD hS => ?_)
  rw [pw_set hw.2.1 ha hq] at hP hD
  exact kk H1 locs1 ⟨hP, hD, hS⟩
theorem p_ildI {f : Nat → Int32} (F : CallFix p m c cc nL s args Ts own) (hK : kK G Y s) (hw : wW G A s.heap (pw h) H locs) (ha : pAt h a (aI Y n f)) (hin : vp_in i n) (hdg : decode cc pc = .ok (.iaload, 1)) (kk : W p l e R s m args below meth c H locs cells slots Q (F0 m (pc + 1) ls (.int (f (cl i)) :: rest))) : W p l e R s m args below meth c H locs cells slots Q (F0 m pc ls (.int i :: .ref a :: rest)) := by
  obtain ⟨q0, hq⟩ := ha.get
  exact va_iald F.1 F.2.1 hK.1 hw.1 q0 0 hq rfl hin hdg kk
theorem p_ldJ {f : Nat → Int64} (F : CallFix p m c cc nL s args Ts own) (hK : kK G Y s) (hw : wW G A s.heap (pw h) H locs) (ha : pAt h a (aJ Y n f)) (hin : vp_in i n) (hdg : decode cc pc = .ok (.laload, 1)) (kk : W p l e R s m args below meth c H locs cells slots Q (F0 m (pc + 1) ls (.long (f (cl i)) :: rest))) : W p l e R s m args below meth c H locs cells slots Q (F0 m pc ls (.int i :: .ref a :: rest)) := by
  obtain ⟨q0, hq⟩ := ha.get
  exact va_lald F.1 F.2.1 hK.1 hw.1 q0 1 hq rfl hin hdg kk
theorem p_ldB {f : Nat → Option Nat} (F : CallFix p m c cc nL s args Ts own) (hK : kK G Y s) (hw : wW G A s.heap (pw h) H locs) (ha : pAt h a (aB Y n f)) (hin : vp_in i n) {b : Nat} (hf : f (cl i) = some b) (hdg : decode cc pc = .ok (.aaload, 1)) (kk : W p l e R s m args below meth c H locs cells slots Q (F0 m (pc + 1) ls (.ref b :: rest))) : W p l e R s m args below meth c H locs cells slots Q (F0 m pc ls (.int i :: .ref a :: rest)) := by
  obtain ⟨q0, hq⟩ := ha.get
  exact va_aldq F.1 F.2.1 hK.1 hw.1 q0 2 hq rfl hin hdg (by rw [show f i.toNatClampNeg = some b from hf]; exact kk)
theorem p_ldP {f : Nat → Option Nat} (F : CallFix p m c cc nL s args Ts own) (hK : kK G Y s) (hw : wW G A s.heap (pw h) H locs) (ha : pAt h a (aP Y n f)) (hin : vp_in i n) (hdg : decode cc pc = .ok (.aaload, 1)) (kk : W p l e R s m args below meth c H locs cells slots Q (F0 m (pc + 1) ls (va_rf (f (cl i)) :: rest))) : W p l e R s m args below meth c H locs cells slots Q (F0 m pc ls (.int i :: .ref a :: rest)) := by
  obtain ⟨q0, hq⟩ := ha.get
  exact va_aldq F.1 F.2.1 hK.1 hw.1 q0 3 hq rfl hin hdg kk
theorem p_ldS {f : Nat → Option Nat} (F : CallFix p m c cc nL s args Ts own) (hK : kK G Y s) (hw : wW G A s.heap (pw h) H locs) (ha : pAt h a (aS Y n f)) (hin : vp_in i n) {b : Nat} (hf : f (cl i) = some b) (hdg : decode cc pc = .ok (.aaload, 1)) (kk : W p l e R s m args below meth c H locs cells slots Q (F0 m (pc + 1) ls (.ref b :: rest))) : W p l e R s m args below meth c H locs cells slots Q (F0 m pc ls (.int i :: .ref a :: rest)) := by
  obtain ⟨q0, hq⟩ := ha.get
  exact va_aldq F.1 F.2.1 hK.1 hw.1 q0 4 hq rfl hin hdg (by rw [show f i.toNatClampNeg = some b from hf]; exact kk)
theorem p_stI {f : Nat → Int32} {x : Int32} (F : CallFix p m c cc nL s args Ts own) (hK : kK G Y s) (hw : wW G A s.heap (pw h) H locs) (ha : pAt h a (aI Y n f)) (hin : vp_in i n) (hdg : decode cc pc = .ok (.iastore, 1)) (kk : ∀ (H1 : Heap) (locs1 : List Loc), wW G A s.heap (pw (pSet h a (aI Y n (upd f (cl i) x)))) H1 locs1 → W p l e R s m args below meth c H1 locs1 cells slots Q (F0 m (pc + 1) ls rest)) : W p l e R s m args below meth c H locs cells slots Q (F0 m pc ls (.int x :: .int i :: .ref a :: rest)) := by
  obtain ⟨q0, hq⟩ := ha.get
  refine va_iast F.1 F.2.1 hK.1 hw.1 hw.2.1 hw.2.2 q0 0 hq rfl hin hdg (fun H1 locs1 hP hD hS => ?_)
  rw [pw_set hw.2.1 ha hq] at hP hD
  exact kk H1 locs1 ⟨hP, hD, hS⟩
theorem p_stJ {f : Nat → Int64} {x : Int64} (F : CallFix p m c cc nL s args Ts own) (hK : kK G Y s) (hw : wW G A s.heap (pw h) H locs) (ha : pAt h a (aJ Y n f)) (hin : vp_in i n) (hdg : decode cc pc = .ok (.lastore, 1)) (kk : ∀ (H1 : Heap) (locs1 : List Loc), wW G A s.heap (pw (pSet h a (aJ Y n (vp_updL f (cl i) x)))) H1 locs1 → W p l e R s m args below meth c H1 locs1 cells slots Q (F0 m (pc + 1) ls rest)) : W p l e R s m args below meth c H locs cells slots Q (F0 m pc ls (.long x :: .int i :: .ref a :: rest)) := by
  obtain ⟨q0, hq⟩ := ha.get
  refine va_last F.1 F.2.1 hK.1 hw.1 hw.2.1 hw.2.2 q0 1 hq rfl hin hdg (fun H1 locs1 hP hD hS => ?_)
  rw [pw_set hw.2.1 ha hq] at hP hD
  exact kk H1 locs1 ⟨hP, hD, hS⟩
theorem p_stB {f : Nat → Option Nat} {b : Nat} (F : CallFix p m c cc nL s args Ts own) (hK : kK G Y s) (hw : wW G A s.heap (pw h) H locs) (ha : pAt h a (aB Y n f)) (hb9 : pAt h b (.inr (0, fs))) (hin : vp_in i n) (hdg : decode cc pc = .ok (.aastore, 1)) (kk : ∀ (H1 : Heap) (locs1 : List Loc), wW G A s.heap (pw (pSet h a (aB Y n (va_up f (cl i) (some b))))) H1 locs1 → W p l e R s m args below meth c H1 locs1 cells slots Q (F0 m (pc + 1) ls rest)) : W p l e R s m args below meth c H locs cells slots Q (F0 m pc ls (.ref b :: .int i :: .ref a :: rest)) := by
  obtain ⟨q0, hq⟩ := ha.get
  obtain ⟨q1, hq1⟩ := hb9.get
  refine va_astq (r := (RX0, TX0, 3)) F.1 F.2.1 hK.1 hw.1 hw.2.1 hw.2.2 q0 2 q1 0 hq rfl hq1 rfl hin hdg (fun H1 locs1 hP hD hS => ?_)
  rw [pw_set hw.2.1 ha hq] at hP hD
  exact kk H1 locs1 ⟨hP, hD, hS⟩
theorem p_stP {f : Nat → Option Nat} {b : Nat} (F : CallFix p m c cc nL s args Ts own) (hK : kK G Y s) (hw : wW G A s.heap (pw h) H locs) (ha : pAt h a (aP Y n f)) (hb9 : pAt h b (.inr (2, fs))) (hin : vp_in i n) (hdg : decode cc pc = .ok (.aastore, 1)) (kk : ∀ (H1 : Heap) (locs1 : List Loc), wW G A s.heap (pw (pSet h a (aP Y n (va_up f (cl i) (some b))))) H1 locs1 → W p l e R s m args below meth c H1 locs1 cells slots Q (F0 m (pc + 1) ls rest)) : W p l e R s m args below meth c H locs cells slots Q (F0 m pc ls (.ref b :: .int i :: .ref a :: rest)) := by
  obtain ⟨q0, hq⟩ := ha.get
  obtain ⟨q1, hq1⟩ := hb9.get
  refine va_astq (r := (RX2, TX2, 6)) F.1 F.2.1 hK.1 hw.1 hw.2.1 hw.2.2 q0 3 q1 2 hq rfl hq1 rfl hin hdg (fun H1 locs1 hP hD hS => ?_)
  rw [pw_set hw.2.1 ha hq] at hP hD
  exact kk H1 locs1 ⟨hP, hD, hS⟩
theorem p_stPN {f : Nat → Option Nat} (F : CallFix p m c cc nL s args Ts own) (hK : kK G Y s) (hw : wW G A s.heap (pw h) H locs) (ha : pAt h a (aP Y n f)) (hin : vp_in i n) (hdg : decode cc pc = .ok (.aastore, 1)) (kk : ∀ (H1 : Heap) (locs1 : List Loc), wW G A s.heap (pw (pSet h a (aP Y n (va_up f (cl i) none)))) H1 locs1 → W p l e R s m args below meth c H1 locs1 cells slots Q (F0 m (pc + 1) ls rest)) : W p l e R s m args below meth c H locs cells slots Q (F0 m pc ls (.null :: .int i :: .ref a :: rest)) := by
  obtain ⟨q0, hq⟩ := ha.get
  refine va_astqN F.1 F.2.1 hK.1 hw.1 hw.2.1 hw.2.2 q0 3 hq rfl hin hdg (fun H1 locs1 hP hD hS => ?_)
  rw [pw_set hw.2.1 ha hq] at hP hD
  exact kk H1 locs1 ⟨hP, hD, hS⟩
theorem p_stS {f : Nat → Option Nat} {b : Nat} (F : CallFix p m c cc nL s args Ts own) (hK : kK G Y s) (hw : wW G A s.heap (pw h) H locs) (ha : pAt h a (aS Y n f)) (hb9 : pAt h b (.inr (3, fs))) (hin : vp_in i n) (hdg : decode cc pc = .ok (.aastore, 1)) (kk : ∀ (H1 : Heap) (locs1 : List Loc), wW G A s.heap (pw (pSet h a (aS Y n (va_up f (cl i) (some b))))) H1 locs1 → W p l e R s m args below meth c H1 locs1 cells slots Q (F0 m (pc + 1) ls rest)) : W p l e R s m args below meth c H locs cells slots Q (F0 m pc ls (.ref b :: .int i :: .ref a :: rest)) := by
  obtain ⟨q0, hq⟩ := ha.get
  obtain ⟨q1, hq1⟩ := hb9.get
  refine va_astq (r := (RX3, TX3, 4)) F.1 F.2.1 hK.1 hw.1 hw.2.1 hw.2.2 q0 4 q1 3 hq rfl hq1 rfl hin hdg (fun H1 locs1 hP hD hS => ?_)
  rw [pw_set hw.2.1 ha hq] at hP hD
  exact kk H1 locs1 ⟨hP, hD, hS⟩
theorem p_alen {x : vp_A} (t0 : Nat) {cA : ClassId} {ty : FieldType} (F : CallFix p m c cc nL s args Ts own) (hK : kK G Y s) (hw : wW G A s.heap (pw h) H locs) (ha : pAt h a (.inl (cA, x))) (ht : (kT Y)[t0]? = some (cA, ty)) {v : Int32} (hv : Int32.ofNat x.1 = v) (hdg : decode cc pc = .ok (.arraylength, 1)) (kk : W p l e R s m args below meth c H locs cells slots Q (F0 m (pc + 1) ls (.int v :: rest))) : W p l e R s m args below meth c H locs cells slots Q (F0 m pc ls (.ref a :: rest)) := by
  obtain ⟨q0, hq⟩ := ha.get
  exact va_alen F.1 F.2.1 hK.1 hw.1 q0 t0 hq ht hv hdg kk
theorem p_new {ty0 : Nat → FieldType} (F : CallFix p m c cc nL s args Ts own) (hc : vwCl[ci]? = some (C, T, N)) (hi : ∀ w ∈ u_ws C T N, w ∈ Ts) (hty : ∀ k, k < N → parseFieldDescriptor (T k).2.2.1 = some (ty0 k)) (hcl : Cond.classLink own index C ∈ Ts) (hinst : Cond.instantiable C N ∈ Ts) (hini : Cond.initialized C ∈ Ts) (hK : kK G Y s) (hw : wW G A s.heap (pw h) H locs) (hA : ∀ q, s.heap.size ≤ q → A q) (hfs : ∀ j, j < N → defaultValue (ty0 j) = vp_V fs j) (hcells : cells + 1 ≤ R.cells) (hslots : slots + N ≤ R.slots) (hdg : decode cc pc = .ok (.new index, 3))
    (kk : ∀ (q : Nat) (H1 : Heap), q ∉ h.1 → wW G A s.heap (pw (pNew h q (.inr (ci, fs)))) H1 locs → W p l e R s m args below meth c H1 locs (cells + 1) (slots + N) Q (F0 m (pc + 3) ls (.ref q :: rest))) : W p l e R s m args below meth c H locs cells slots Q (F0 m pc ls rest) := by
  refine va_new (ci := ci) (fs := fs) (C := C) (T := T) (N := N) F.1 F.2.1 F.2.2.2.2 hi ty0 hty F.2.2.2.1 (F.2.2.2.2 _ hcl) (F.2.2.2.2 _ hinst) (F.2.2.2.2 _ hini) hK.1 hw.1 hw.2.1 hw.2.2 hA hc hfs hcells hslots hdg (fun q H1 hP hD hS => ?_)
  have hq := pw_fresh hD
  rw [pw_push hq] at hP hD
  exact kk q H1 hq ⟨hP, hD, hS⟩
theorem kT_same {tys : List (ClassId × FieldType)} {cA cB : ClassId} {ty : FieldType} {k : Nat} (hK : va_K G vwCl (tys ++ [(cA, ty)]) s) (hk : tys[k]? = some (cB, ty)) : cA = cB := by
  have h1 := (hK.2 tys.length (cA, ty) (by rw [List.getElem?_append_right (Nat.le_refl _), Nat.sub_self]; rfl)).2
  have h2 := (hK.2 k (cB, ty) (by rw [List.getElem?_append_left (List.getElem?_eq_some_iff.mp hk).1]; exact hk)).2
  cases ty with
  | object C =>
    obtain ⟨_, _, _, _, _, h3⟩ := h1
    obtain ⟨_, _, _, _, _, h4⟩ := h2
    exact Option.some.inj (h3.symm.trans h4)
  | _ => exact Option.some.inj (Eq.trans (Eq.symm h1) h2)
theorem p_newI {N' : Nat} (F : CallFix p m c cc nL s args Ts own) (harr : Cond.arrayClass .int ∈ Ts) (hK : kK G Y s) (hw : wW G A s.heap (pw h) H locs) (hA : ∀ q, s.heap.size ≤ q → A q) (hn : ¬ i < 0) (hN : i.toNatClampNeg = N') (hb9 : N' ≤ 100000) (hcells : cells + 1 ≤ R.cells) (hslots : slots + N' ≤ R.slots) (hdg : decode cc pc = .ok (.newarray .int, 2))
    (kk : ∀ (q : Nat) (H1 : Heap), q ∉ h.1 → wW G A s.heap (pw (pNew h q (aI Y N' (fun _ => 0)))) H1 locs → W p l e R s m args below meth c H1 locs (cells + 1) (slots + N') Q (F0 m (pc + 2) ls (.ref q :: rest))) : W p l e R s m args below meth c H locs cells slots Q (F0 m pc ls (.int i :: rest)) := by
  refine va_newa (atype := .int) (ty := .int) (a0 := (N', .inl (fun _ => 0))) F.1 F.2.1 (F.2.2.2.2 _ harr) rfl hK.1 hw.1 hw.2.1 hw.2.2 hA (fun _ => rfl) hn hN (by simp [componentBytes]; omega) hcells hslots hdg (fun q cA H1 hK1 hP hD hS => ?_)
  obtain rfl : cA = Y 0 := kT_same (k := 0) hK1 rfl
  have hq := pw_fresh hD
  rw [pw_push hq] at hP hD
  exact kk q H1 hq ⟨hP, hD, hS⟩
theorem p_newJ {N' : Nat} (F : CallFix p m c cc nL s args Ts own) (harr : Cond.arrayClass .long ∈ Ts) (hK : kK G Y s) (hw : wW G A s.heap (pw h) H locs) (hA : ∀ q, s.heap.size ≤ q → A q) (hn : ¬ i < 0) (hN : i.toNatClampNeg = N') (hb9 : N' ≤ 100000) (hcells : cells + 1 ≤ R.cells) (hslots : slots + N' ≤ R.slots) (hdg : decode cc pc = .ok (.newarray .long, 2))
    (kk : ∀ (q : Nat) (H1 : Heap), q ∉ h.1 → wW G A s.heap (pw (pNew h q (aJ Y N' (fun _ => 0)))) H1 locs → W p l e R s m args below meth c H1 locs (cells + 1) (slots + N') Q (F0 m (pc + 2) ls (.ref q :: rest))) : W p l e R s m args below meth c H locs cells slots Q (F0 m pc ls (.int i :: rest)) := by
  refine va_newa (atype := .long) (ty := .long) (a0 := (N', .inr (.inl (fun _ => 0)))) F.1 F.2.1 (F.2.2.2.2 _ harr) rfl hK.1 hw.1 hw.2.1 hw.2.2 hA (fun _ => rfl) hn hN (by simp [componentBytes]; omega) hcells hslots hdg (fun q cA H1 hK1 hP hD hS => ?_)
  obtain rfl : cA = Y 1 := kT_same (k := 1) hK1 rfl
  have hq := pw_fresh hD
  rw [pw_push hq] at hP hD
  exact kk q H1 hq ⟨hP, hD, hS⟩
theorem p_newA {C : String} {N' : Nat} {cB : ClassId} (k : Nat) (F : CallFix p m c cc nL s args Ts own) (hk : (kT Y)[k]? = some (cB, .object C)) (hcl : Cond.classLink own index C ∈ Ts) (hao : va_AO C s) (hK : kK G Y s) (hw : wW G A s.heap (pw h) H locs) (hA : ∀ q, s.heap.size ≤ q → A q) (hn : ¬ i < 0) (hN : i.toNatClampNeg = N') (hb9 : N' ≤ 100000) (hcells : cells + 1 ≤ R.cells) (hslots : slots + N' ≤ R.slots) (hdg : decode cc pc = .ok (.anewarray index, 3))
    (kk : ∀ (q : Nat) (H1 : Heap), q ∉ h.1 → wW G A s.heap (pw (pNew h q (.inl (cB, N', .inr (.inr (.inr (.inr (fun _ => none)))))))) H1 locs → W p l e R s m args below meth c H1 locs (cells + 1) (slots + N') Q (F0 m (pc + 3) ls (.ref q :: rest))) : W p l e R s m args below meth c H locs cells slots Q (F0 m pc ls (.int i :: rest)) := by
  refine va_newq (C := C) F.1 F.2.1 F.2.2.2.1 (F.2.2.2.2 _ hcl) hao hK.1 hw.1 hw.2.1 hw.2.2 hA hn hN (by omega) hcells hslots hdg (fun q cA H1 hK1 hP hD hS => ?_)
  obtain rfl : cA = cB := kT_same (k := k) hK1 hk
  have hq := pw_fresh hD
  rw [pw_push hq] at hP hD
  exact kk q H1 hq ⟨hP, hD, hS⟩
end PHR
end
section
/-! the reference: what its methods do, as relations over its state -/
abbrev isD (d : Int32) : Prop := ¬ d < 0 ∧ ¬ 6 ≤ d
abbrev isS (d : Int32) : Prop := ¬ d < 0 ∧ ¬ 3 ≤ d
theorem in_of {x N : Int32} {n : Nat} (hN : N.toInt = n) (h1 : ¬ x < 0) (h2 : ¬ N ≤ x) : vp_in x n := by
  rw [vp_in_iff]
  rw [Int32.lt_iff_toInt_lt] at h1
  rw [Int32.le_iff_toInt_le] at h2
  have h0 : (0 : Int32).toInt = 0 := rfl
  omega
theorem isD.in {d : Int32} (h : isD d) : vp_in d 6 := in_of (N := 6) rfl h.1 h.2
theorem isS.in {d : Int32} (h : isS d) : vp_in d 3 := in_of (N := 3) rfl h.1 h.2
theorem isD.nat {d : Int32} (h : isD d) : ∃ j : Nat, j < 6 ∧ d = nI j := vp_in_of h.in (by decide)
theorem isS.nat {d : Int32} (h : isS d) : ∃ j : Nat, j < 3 ∧ d = nI j := vp_in_of h.in (by decide)
theorem nI_isD {j : Nat} (h : j < 6) : isD (nI j) := ⟨nI_pos (by omega), nI_ge h (by decide)⟩
theorem nI_isS {j : Nat} (h : j < 3) : isS (nI j) := ⟨nI_pos (by omega), nI_ge h (by decide)⟩
theorem isD.lt {d : Int32} (h : isD d) : cl d < 6 := by
  obtain ⟨j, hj, rfl⟩ := h.nat
  show (nI j).toNatClampNeg < 6
  rw [nI_clamp (by omega)]; exact hj
theorem isS.lt {d : Int32} (h : isS d) : cl d < 3 := by
  obtain ⟨j, hj, rfl⟩ := h.nat
  show (nI j).toNatClampNeg < 3
  rw [nI_clamp (by omega)]; exact hj
def mUsed (d : Nat → Int32) (b bs : Int32) : Prop := ∃ j, j < 6 ∧ nI j ≠ bs ∧ d j = b
def mso (v : Int64) : Int32 := (v &&& 3).toInt32
def mMay (s : Int32) (v : Int64) : Prop := s < 7 ∨ mso v = 0 ∨ mso v = s - 6
def jsh (v : Int64) (k : Int32) : Int64 := (v <<< (k.toInt64 &&& 63)) >>> (k.toInt64 &&& 63)
def mCut (k : Int32) (v : Int64) : Int64 := if k = 0 then jsh v 56 else if k = 1 then v &&& 65535 else if k = 2 then jsh v 48 else if k = 3 then jsh v 32 else if k = 4 then v else v &&& 1
/-- a desk holds nothing, a stone, or one of the six books -/
def dOK (d : Nat → Int32) : Prop := ∀ i, i < 6 → d i = -1 ∨ d i = -2 ∨ isD (d i)
def zOK (z : Nat → Int32) : Prop := ∀ i, i < 6 → ∃ n, n ≤ 40 ∧ z i = nI n
theorem dOK.at {d : Nat → Int32} (h : dOK d) {a : Int32} (ha : isD a) (h1 : ¬ d (cl a) = -1) (h2 : ¬ d (cl a) = -2) : isD (d (cl a)) := by
  rcases h _ ha.lt with q | q | q
  · exact absurd q h1
  · exact absurd q h2
  · exact q
theorem dOK.pos {d : Nat → Int32} (h : dOK d) {a : Int32} (ha : isD a) (h1 : ¬ d (cl a) < 0) : isD (d (cl a)) := by
  rcases h _ ha.lt with q | q | q
  · rw [q] at h1; exact absurd (by decide) h1
  · rw [q] at h1; exact absurd (by decide) h1
  · exact q
def mUnl (d sc : Nat → Int32) (a b : Int32) : Int32 :=
  if d (cl a) = -1 ∨ d (cl b) = -1 then -1 else if d (cl a) = -2 ∨ d (cl b) = -2 then -2
  else if sc (cl (d (cl a))) = sc (cl (d (cl b))) ∨ (5 < sc (cl (d (cl a))) ∧ 5 < sc (cl (d (cl b)))) then 0 else -2
end
section
set_option maxHeartbeats 4000000 in
set_option maxRecDepth 100000 in
theorem c_m_thrown (l : Launch) (G : va_G) (Y : Nat → ClassId) (x : Nat) (ad : Nat → Nat) (d sc sz : Nat → Int32) (sg : Nat → Int64) (ik cp wt wa ch ct : Nat → Int32) (th : Int32)   : ctI l G Y (mW Y x ad) yX5_thrown wsX5_thrown ({ frames := 0, cells := 0, slots := 0, locals := 0 }) [.ref x] (d, sc, sz, sg, ik, cp, wt, wa, ch, ct, th) (fun r u' => r = th ∧ u' = (d, sc, sz, sg, ik, cp, wt, wa, ch, ct, th)) := by
  refine ctI.of (cc := cX5_thrown) (maxL := 1) (ret := (some .int)) (by decide) rfl (Nat.le_of_ble_eq_true rfl) ?_
  intro A p e s m below meth c ls hB
  obtain ⟨F, hr, hlocks, hnm, hK, hA, hw, hl⟩ := hB
  obtain ⟨hx, hb, hml, hown, hts⟩ := id F
  have hl : lv_has ls 1 [(0, .ref x)] := hl
  have hi : ∀ w ∈ wsX50, w ∈ wsX5_thrown := by decide +kernel
  have hl41 : Cond.fieldLink RX5 41 "ScriptoriumModel" "thrown" "I" ∈ wsX5_thrown := by decide +kernel
  refine lv_aload_n hx hb dX5_thrown_0 rfl (lv_at hl 0 rfl) ?_
  refine m_get10 F hi hl41 hK hw dX5_thrown_1 ?_
  exact ct_iret hx hb hr (vp_nar_int _) hlocks hK hw dX5_thrown_4 (Nat.le_of_ble_eq_true rfl) (Nat.le_of_ble_eq_true rfl) ⟨rfl, rfl⟩

set_option maxHeartbeats 4000000 in
set_option maxRecDepth 100000 in
theorem c_m_isDesk (l : Launch) (G : va_G) (Y : Nat → ClassId) (x : Nat) (ad : Nat → Nat) (d sc sz : Nat → Int32) (sg : Nat → Int64) (ik cp wt wa ch ct : Nat → Int32) (th : Int32) (p0 : Int32)  : ctI l G Y (mW Y x ad) yX5_isDesk wsX5_isDesk ({ frames := 0, cells := 0, slots := 0, locals := 0 }) [.int p0] (d, sc, sz, sg, ik, cp, wt, wa, ch, ct, th) (fun r u' => u' = (d, sc, sz, sg, ik, cp, wt, wa, ch, ct, th) ∧ ((isD p0 ∧ r = 1) ∨ (¬ isD p0 ∧ r = 0))) := by
  refine ctI.of (cc := cX5_isDesk) (maxL := 1) (ret := (some .boolean)) (by decide) rfl (Nat.le_of_ble_eq_true rfl) ?_
  intro A p e s m below meth c ls hB
  obtain ⟨F, hr, hlocks, hnm, hK, hA, hw, hl⟩ := hB
  obtain ⟨hx, hb, hml, hown, hts⟩ := id F
  have hl : lv_has ls 1 [(0, .int p0)] := hl
  refine lv_iload_n hx hb dX5_isDesk_0 rfl (lv_at hl 0 rfl) ?_
  refine lv_if_lt (tgt := 14) hx hb dX5_isDesk_1 (by decide) (fun c_1 => ?_) (fun c_1 => ?_)
  · skip
    refine lv_iconst (v := 0) hx hb dX5_isDesk_14 (by decide) ?_
    exact ct_iret hx hb hr rfl hlocks hK hw dX5_isDesk_15 (Nat.le_of_ble_eq_true rfl) (Nat.le_of_ble_eq_true rfl) (by first | exact ⟨rfl, Or.inl ⟨⟨c_1, c_7⟩, rfl⟩⟩ | exact ⟨rfl, Or.inr ⟨fun h => h.1 c_1, rfl⟩⟩ | exact ⟨rfl, Or.inr ⟨fun h => h.2 c_7, rfl⟩⟩)
  · skip
    refine lv_iload_n hx hb dX5_isDesk_4 rfl (lv_at hl 0 rfl) ?_
    refine lv_bipush (v := 6) hx hb dX5_isDesk_5 (by decide) ?_
    refine lv_icmp_ge (tgt := 14) hx hb dX5_isDesk_7 (by decide) (fun c_7 => ?_) (fun c_7 => ?_)
    · skip
      refine lv_iconst (v := 0) hx hb dX5_isDesk_14 (by decide) ?_
      exact ct_iret hx hb hr rfl hlocks hK hw dX5_isDesk_15 (Nat.le_of_ble_eq_true rfl) (Nat.le_of_ble_eq_true rfl) (by first | exact ⟨rfl, Or.inl ⟨⟨c_1, c_7⟩, rfl⟩⟩ | exact ⟨rfl, Or.inr ⟨fun h => h.1 c_1, rfl⟩⟩ | exact ⟨rfl, Or.inr ⟨fun h => h.2 c_7, rfl⟩⟩)
    · skip
      refine lv_iconst (v := 1) hx hb dX5_isDesk_10 (by decide) ?_
      refine lv_goto (tgt := 15) hx hb dX5_isDesk_11 (by decide) ?_
      exact ct_iret hx hb hr rfl hlocks hK hw dX5_isDesk_15 (Nat.le_of_ble_eq_true rfl) (Nat.le_of_ble_eq_true rfl) (by first | exact ⟨rfl, Or.inl ⟨⟨c_1, c_7⟩, rfl⟩⟩ | exact ⟨rfl, Or.inr ⟨fun h => h.1 c_1, rfl⟩⟩ | exact ⟨rfl, Or.inr ⟨fun h => h.2 c_7, rfl⟩⟩)

set_option maxHeartbeats 4000000 in
set_option maxRecDepth 100000 in
theorem c_m_isScribe (l : Launch) (G : va_G) (Y : Nat → ClassId) (x : Nat) (ad : Nat → Nat) (d sc sz : Nat → Int32) (sg : Nat → Int64) (ik cp wt wa ch ct : Nat → Int32) (th : Int32) (p0 : Int32)  : ctI l G Y (mW Y x ad) yX5_isScribe wsX5_isScribe ({ frames := 0, cells := 0, slots := 0, locals := 0 }) [.int p0] (d, sc, sz, sg, ik, cp, wt, wa, ch, ct, th) (fun r u' => u' = (d, sc, sz, sg, ik, cp, wt, wa, ch, ct, th) ∧ ((isS p0 ∧ r = 1) ∨ (¬ isS p0 ∧ r = 0))) := by
  refine ctI.of (cc := cX5_isScribe) (maxL := 1) (ret := (some .boolean)) (by decide) rfl (Nat.le_of_ble_eq_true rfl) ?_
  intro A p e s m below meth c ls hB
  obtain ⟨F, hr, hlocks, hnm, hK, hA, hw, hl⟩ := hB
  obtain ⟨hx, hb, hml, hown, hts⟩ := id F
  have hl : lv_has ls 1 [(0, .int p0)] := hl
  refine lv_iload_n hx hb dX5_isScribe_0 rfl (lv_at hl 0 rfl) ?_
  refine lv_if_lt (tgt := 13) hx hb dX5_isScribe_1 (by decide) (fun c_1 => ?_) (fun c_1 => ?_)
  · skip
    refine lv_iconst (v := 0) hx hb dX5_isScribe_13 (by decide) ?_
    exact ct_iret hx hb hr rfl hlocks hK hw dX5_isScribe_14 (Nat.le_of_ble_eq_true rfl) (Nat.le_of_ble_eq_true rfl) (by first | exact ⟨rfl, Or.inl ⟨⟨c_1, c_6⟩, rfl⟩⟩ | exact ⟨rfl, Or.inr ⟨fun h => h.1 c_1, rfl⟩⟩ | exact ⟨rfl, Or.inr ⟨fun h => h.2 c_6, rfl⟩⟩)
  · skip
    refine lv_iload_n hx hb dX5_isScribe_4 rfl (lv_at hl 0 rfl) ?_
    refine lv_iconst (v := 3) hx hb dX5_isScribe_5 (by decide) ?_
    refine lv_icmp_ge (tgt := 13) hx hb dX5_isScribe_6 (by decide) (fun c_6 => ?_) (fun c_6 => ?_)
    · skip
      refine lv_iconst (v := 0) hx hb dX5_isScribe_13 (by decide) ?_
      exact ct_iret hx hb hr rfl hlocks hK hw dX5_isScribe_14 (Nat.le_of_ble_eq_true rfl) (Nat.le_of_ble_eq_true rfl) (by first | exact ⟨rfl, Or.inl ⟨⟨c_1, c_6⟩, rfl⟩⟩ | exact ⟨rfl, Or.inr ⟨fun h => h.1 c_1, rfl⟩⟩ | exact ⟨rfl, Or.inr ⟨fun h => h.2 c_6, rfl⟩⟩)
    · skip
      refine lv_iconst (v := 1) hx hb dX5_isScribe_9 (by decide) ?_
      refine lv_goto (tgt := 14) hx hb dX5_isScribe_10 (by decide) ?_
      exact ct_iret hx hb hr rfl hlocks hK hw dX5_isScribe_14 (Nat.le_of_ble_eq_true rfl) (Nat.le_of_ble_eq_true rfl) (by first | exact ⟨rfl, Or.inl ⟨⟨c_1, c_6⟩, rfl⟩⟩ | exact ⟨rfl, Or.inr ⟨fun h => h.1 c_1, rfl⟩⟩ | exact ⟨rfl, Or.inr ⟨fun h => h.2 c_6, rfl⟩⟩)

set_option maxHeartbeats 4000000 in
set_option maxRecDepth 100000 in
theorem c_m_isUsed (l : Launch) (G : va_G) (Y : Nat → ClassId) (x : Nat) (ad : Nat → Nat) (d sc sz : Nat → Int32) (sg : Nat → Int64) (ik cp wt wa ch ct : Nat → Int32) (th : Int32) (p0 : Int32) (p1 : Int32)  : ctI l G Y (mW Y x ad) yX5_isUsed wsX5_isUsed ({ frames := 0, cells := 0, slots := 0, locals := 0 }) [.ref x, .int p0, .int p1] (d, sc, sz, sg, ik, cp, wt, wa, ch, ct, th) (fun r u' => u' = (d, sc, sz, sg, ik, cp, wt, wa, ch, ct, th) ∧ ((mUsed d p0 p1 ∧ r = 1) ∨ (¬ mUsed d p0 p1 ∧ r = 0))) := by
  refine ctI.of (cc := cX5_isUsed) (maxL := 4) (ret := (some .boolean)) (by decide) rfl (Nat.le_of_ble_eq_true rfl) ?_
  intro A p e s m below meth c ls hB
  obtain ⟨F, hr, hlocks, hnm, hK, hA, hw, hl⟩ := hB
  obtain ⟨hx, hb, hml, hown, hts⟩ := id F
  have hl : lv_has ls 4 [(0, .ref x), (1, .int p0), (2, .int p1)] := hl
  have hi : ∀ w ∈ wsX50, w ∈ wsX5_isUsed := by decide +kernel
  have hl7 : Cond.fieldLink RX5 7 "ScriptoriumModel" "desk" "[I" ∈ wsX5_isUsed := by decide +kernel
  refine lv_iconst (v := 0) hx hb dX5_isUsed_0 (by decide) ?_
  refine lv_istore_n (lv' := [(3, .int _), (0, .ref _), (1, .int _), (2, .int _)]) hx hb dX5_isUsed_1 rfl hl (by decide) rfl (fun ls hl => ?_)
  refine W_loop (σ := Nat) 2 (fun n (k : Nat) H locs ls => n = 6 - k ∧ k ≤ 6 ∧ (∀ j, j < k → ¬ (nI j ≠ p1 ∧ d j = p0)) ∧ wW G A s.heap (mW Y x ad (d, sc, sz, sg, ik, cp, wt, wa, ch, ct, th)) H locs ∧ lv_has ls 4 [(3, .int (nI k)), (0, .ref x), (1, .int p0), (2, .int p1)]) ?_ (n := 6) (x := 0) ⟨rfl, by omega, lt_0, hw, hl⟩
  intro n k H locs ls hI ih
  obtain ⟨hn, hk, hall, hw, hl⟩ := hI
  refine lv_iload_n hx hb dX5_isUsed_2 rfl (lv_at hl 0 rfl) ?_
  refine lv_bipush (v := 6) hx hb dX5_isUsed_3 (by decide) ?_
  refine lv_icmp_ge (tgt := 31) hx hb dX5_isUsed_5 (by decide) (fun c_5 => ?_) (fun c_5 => ?_)
  · skip
    have hk6 : k = 6 := by
      rcases Nat.lt_or_ge k 6 with q | q
      · exact absurd c_5 (nI_ge q (by decide))
      · omega
    refine lv_iconst (v := 0) hx hb dX5_isUsed_31 (by decide) ?_
    exact ct_iret hx hb hr rfl hlocks hK hw dX5_isUsed_32 (Nat.le_of_ble_eq_true rfl) (Nat.le_of_ble_eq_true rfl) ⟨rfl, Or.inr ⟨fun ⟨j, h1, h2, h3⟩ => hall j (by omega) ⟨h2, h3⟩, rfl⟩⟩
  · skip
    have hk6 : k < 6 := by
      rcases Nat.lt_or_ge k 6 with q | q
      · exact q
      · exact absurd (show (6 : Int32) ≤ nI k from nI_le (a := 6) q (by omega)) c_5
    have hck : cl (nI k) = k := nI_clamp (by omega)
    refine lv_iload_n hx hb dX5_isUsed_8 rfl (lv_at hl 0 rfl) ?_
    refine lv_iload_n hx hb dX5_isUsed_9 rfl (lv_at hl 3 rfl) ?_
    refine lv_icmp_eq (tgt := 25) hx hb dX5_isUsed_10 (by decide) (fun c_10 => ?_) (fun c_10 => ?_)
    · skip
      refine lv_iinc (lv' := [(3, .int _), (0, .ref _), (1, .int _), (2, .int _)]) hx hb dX5_isUsed_25 hl (k := 0) rfl rfl (by decide) rfl (fun ls hl => ?_)
      refine lv_goto (tgt := 2) hx hb dX5_isUsed_28 (by decide) ?_
      exact ih _ (k + 1) _ _ _ (by omega) ⟨rfl, by omega, lt_s hall (by first | exact fun h => h.1 c_10 | exact fun h => c_20 (by rw [hck]; exact h.2)), hw, by rw [nI_succ]; exact hl⟩
    · skip
      refine lv_aload_n hx hb dX5_isUsed_13 rfl (lv_at hl 1 rfl) ?_
      refine m_get0 F hi hl7 hK hw dX5_isUsed_14 ?_
      refine lv_iload_n hx hb dX5_isUsed_17 rfl (lv_at hl 0 rfl) ?_
      refine m_ld0 F hK hw (vp_in_nI hk6 (by decide)) dX5_isUsed_18 ?_
      refine lv_iload_n hx hb dX5_isUsed_19 rfl (lv_at hl 2 rfl) ?_
      refine lv_icmp_ne (tgt := 25) hx hb dX5_isUsed_20 (by decide) (fun c_20 => ?_) (fun c_20 => ?_)
      · skip
        refine lv_iinc (lv' := [(3, .int _), (0, .ref _), (1, .int _), (2, .int _)]) hx hb dX5_isUsed_25 hl (k := 0) rfl rfl (by decide) rfl (fun ls hl => ?_)
        refine lv_goto (tgt := 2) hx hb dX5_isUsed_28 (by decide) ?_
        exact ih _ (k + 1) _ _ _ (by omega) ⟨rfl, by omega, lt_s hall (by first | exact fun h => h.1 c_10 | exact fun h => c_20 (by rw [hck]; exact h.2)), hw, by rw [nI_succ]; exact hl⟩
      · skip
        refine lv_iconst (v := 1) hx hb dX5_isUsed_23 (by decide) ?_
        exact ct_iret hx hb hr rfl hlocks hK hw dX5_isUsed_24 (Nat.le_of_ble_eq_true rfl) (Nat.le_of_ble_eq_true rfl) ⟨rfl, Or.inl ⟨⟨k, hk6, c_10, by rw [← hck]; exact c_20⟩, rfl⟩⟩

set_option maxHeartbeats 4000000 in
set_option maxRecDepth 100000 in
theorem c_m_isPictures (l : Launch) (G : va_G) (Y : Nat → ClassId) (x : Nat) (ad : Nat → Nat) (d sc sz : Nat → Int32) (sg : Nat → Int64) (ik cp wt wa ch ct : Nat → Int32) (th : Int32) (p0 : Int32) (h0 : isD p0) : ctI l G Y (mW Y x ad) yX5_isPictures wsX5_isPictures ({ frames := 0, cells := 0, slots := 0, locals := 0 }) [.ref x, .int p0] (d, sc, sz, sg, ik, cp, wt, wa, ch, ct, th) (fun r u' => u' = (d, sc, sz, sg, ik, cp, wt, wa, ch, ct, th) ∧ ((5 < sc (cl p0) ∧ r = 1) ∨ (¬ 5 < sc (cl p0) ∧ r = 0))) := by
  refine ctI.of (cc := cX5_isPictures) (maxL := 2) (ret := (some .boolean)) (by decide) rfl (Nat.le_of_ble_eq_true rfl) ?_
  intro A p e s m below meth c ls hB
  obtain ⟨F, hr, hlocks, hnm, hK, hA, hw, hl⟩ := hB
  obtain ⟨hx, hb, hml, hown, hts⟩ := id F
  have hl : lv_has ls 2 [(0, .ref x), (1, .int p0)] := hl
  have hi : ∀ w ∈ wsX50, w ∈ wsX5_isPictures := by decide +kernel
  have hl13 : Cond.fieldLink RX5 13 "ScriptoriumModel" "script" "[I" ∈ wsX5_isPictures := by decide +kernel
  refine lv_aload_n hx hb dX5_isPictures_0 rfl (lv_at hl 0 rfl) ?_
  refine m_get1 F hi hl13 hK hw dX5_isPictures_1 ?_
  refine lv_iload_n hx hb dX5_isPictures_4 rfl (lv_at hl 1 rfl) ?_
  refine m_ld1 F hK hw h0.in dX5_isPictures_5 ?_
  refine lv_iconst (v := 5) hx hb dX5_isPictures_6 (by decide) ?_
  refine lv_icmp_le (tgt := 14) hx hb dX5_isPictures_7 (by decide) (fun c_7 => ?_) (fun c_7 => ?_)
  · skip
    refine lv_iconst (v := 0) hx hb dX5_isPictures_14 (by decide) ?_
    exact ct_iret hx hb hr rfl hlocks hK hw dX5_isPictures_15 (Nat.le_of_ble_eq_true rfl) (Nat.le_of_ble_eq_true rfl) (by first | exact ⟨rfl, Or.inl ⟨Int32.not_le.mp c_7, rfl⟩⟩ | exact ⟨rfl, Or.inr ⟨Int32.not_lt.mpr c_7, rfl⟩⟩)
  · skip
    refine lv_iconst (v := 1) hx hb dX5_isPictures_10 (by decide) ?_
    refine lv_goto (tgt := 15) hx hb dX5_isPictures_11 (by decide) ?_
    exact ct_iret hx hb hr rfl hlocks hK hw dX5_isPictures_15 (Nat.le_of_ble_eq_true rfl) (Nat.le_of_ble_eq_true rfl) (by first | exact ⟨rfl, Or.inl ⟨Int32.not_le.mp c_7, rfl⟩⟩ | exact ⟨rfl, Or.inr ⟨Int32.not_lt.mpr c_7, rfl⟩⟩)

set_option maxHeartbeats 4000000 in
set_option maxRecDepth 100000 in
theorem c_m_may (l : Launch) (G : va_G) (Y : Nat → ClassId) (x : Nat) (ad : Nat → Nat) (d sc sz : Nat → Int32) (sg : Nat → Int64) (ik cp wt wa ch ct : Nat → Int32) (th : Int32) (p0 : Int32) (v0 : Int64) (h0 : isD p0) : ctI l G Y (mW Y x ad) yX5_may wsX5_may ({ frames := 0, cells := 0, slots := 0, locals := 0 }) [.ref x, .int p0, .long v0] (d, sc, sz, sg, ik, cp, wt, wa, ch, ct, th) (fun r u' => u' = (d, sc, sz, sg, ik, cp, wt, wa, ch, ct, th) ∧ ((mMay (sc (cl p0)) v0 ∧ r = 1) ∨ (¬ mMay (sc (cl p0)) v0 ∧ r = 0))) := by
  refine ctI.of (cc := cX5_may) (maxL := 5) (ret := (some .boolean)) (by decide) rfl (Nat.le_of_ble_eq_true rfl) ?_
  intro A p e s m below meth c ls hB
  obtain ⟨F, hr, hlocks, hnm, hK, hA, hw, hl⟩ := hB
  obtain ⟨hx, hb, hml, hown, hts⟩ := id F
  have hl : lv_has ls 5 [(0, .ref x), (1, .int p0), (2, .long v0)] := hl
  have hi : ∀ w ∈ wsX50, w ∈ wsX5_may := by decide +kernel
  have hl13 : Cond.fieldLink RX5 13 "ScriptoriumModel" "script" "[I" ∈ wsX5_may := by decide +kernel
  refine lv_lload_n hx hb dX5_may_0 rfl (lv_at hl 2 rfl) ?_
  refine lv_ldc2 hx hb hown (hts (.constantLong RX5 53 (3)) (by decide +kernel)) dX5_may_1 ?_
  refine lv_land hx hb dX5_may_4 ?_
  refine lv_l2i hx hb dX5_may_5 rfl ?_
  refine lv_istore (lv' := [(4, .int _), (0, .ref _), (1, .int _), (2, .long _)]) hx hb dX5_may_6 hl (by decide) rfl (fun ls hl => ?_)
  refine lv_aload_n hx hb dX5_may_8 rfl (lv_at hl 1 rfl) ?_
  refine m_get1 F hi hl13 hK hw dX5_may_9 ?_
  refine lv_iload_n hx hb dX5_may_12 rfl (lv_at hl 2 rfl) ?_
  refine m_ld1 F hK hw h0.in dX5_may_13 ?_
  refine lv_bipush (v := 7) hx hb dX5_may_14 (by decide) ?_
  refine lv_icmp_lt (tgt := 38) hx hb dX5_may_16 (by decide) (fun c_16 => ?_) (fun c_16 => ?_)
  · skip
    refine lv_iconst (v := 1) hx hb dX5_may_38 (by decide) ?_
    refine lv_goto (tgt := 43) hx hb dX5_may_39 (by decide) ?_
    exact ct_iret hx hb hr rfl hlocks hK hw dX5_may_43 (Nat.le_of_ble_eq_true rfl) (Nat.le_of_ble_eq_true rfl) (by first | exact ⟨rfl, Or.inl ⟨Or.inl c_16, rfl⟩⟩ | exact ⟨rfl, Or.inl ⟨Or.inr (Or.inl c_21), rfl⟩⟩ | exact ⟨rfl, Or.inl ⟨Or.inr (Or.inr c_35), rfl⟩⟩ | exact ⟨rfl, Or.inr ⟨fun h => h.elim c_16 (fun h => h.elim c_21 c_35), rfl⟩⟩)
  · skip
    refine lv_iload hx hb dX5_may_19 (lv_at hl 0 rfl) ?_
    refine lv_if_eq (tgt := 38) hx hb dX5_may_21 (by decide) (fun c_21 => ?_) (fun c_21 => ?_)
    · skip
      refine lv_iconst (v := 1) hx hb dX5_may_38 (by decide) ?_
      refine lv_goto (tgt := 43) hx hb dX5_may_39 (by decide) ?_
      exact ct_iret hx hb hr rfl hlocks hK hw dX5_may_43 (Nat.le_of_ble_eq_true rfl) (Nat.le_of_ble_eq_true rfl) (by first | exact ⟨rfl, Or.inl ⟨Or.inl c_16, rfl⟩⟩ | exact ⟨rfl, Or.inl ⟨Or.inr (Or.inl c_21), rfl⟩⟩ | exact ⟨rfl, Or.inl ⟨Or.inr (Or.inr c_35), rfl⟩⟩ | exact ⟨rfl, Or.inr ⟨fun h => h.elim c_16 (fun h => h.elim c_21 c_35), rfl⟩⟩)
    · skip
      refine lv_iload hx hb dX5_may_24 (lv_at hl 0 rfl) ?_
      refine lv_aload_n hx hb dX5_may_26 rfl (lv_at hl 1 rfl) ?_
      refine m_get1 F hi hl13 hK hw dX5_may_27 ?_
      refine lv_iload_n hx hb dX5_may_30 rfl (lv_at hl 2 rfl) ?_
      refine m_ld1 F hK hw h0.in dX5_may_31 ?_
      refine lv_bipush (v := 6) hx hb dX5_may_32 (by decide) ?_
      refine lv_isub hx hb dX5_may_34 ?_
      refine lv_icmp_ne (tgt := 42) hx hb dX5_may_35 (by decide) (fun c_35 => ?_) (fun c_35 => ?_)
      · skip
        refine lv_iconst (v := 0) hx hb dX5_may_42 (by decide) ?_
        exact ct_iret hx hb hr rfl hlocks hK hw dX5_may_43 (Nat.le_of_ble_eq_true rfl) (Nat.le_of_ble_eq_true rfl) (by first | exact ⟨rfl, Or.inl ⟨Or.inl c_16, rfl⟩⟩ | exact ⟨rfl, Or.inl ⟨Or.inr (Or.inl c_21), rfl⟩⟩ | exact ⟨rfl, Or.inl ⟨Or.inr (Or.inr c_35), rfl⟩⟩ | exact ⟨rfl, Or.inr ⟨fun h => h.elim c_16 (fun h => h.elim c_21 c_35), rfl⟩⟩)
      · skip
        refine lv_iconst (v := 1) hx hb dX5_may_38 (by decide) ?_
        refine lv_goto (tgt := 43) hx hb dX5_may_39 (by decide) ?_
        exact ct_iret hx hb hr rfl hlocks hK hw dX5_may_43 (Nat.le_of_ble_eq_true rfl) (Nat.le_of_ble_eq_true rfl) (by first | exact ⟨rfl, Or.inl ⟨Or.inl c_16, rfl⟩⟩ | exact ⟨rfl, Or.inl ⟨Or.inr (Or.inl c_21), rfl⟩⟩ | exact ⟨rfl, Or.inl ⟨Or.inr (Or.inr c_35), rfl⟩⟩ | exact ⟨rfl, Or.inr ⟨fun h => h.elim c_16 (fun h => h.elim c_21 c_35), rfl⟩⟩)

set_option maxHeartbeats 4000000 in
set_option maxRecDepth 100000 in
theorem c_m_cut (l : Launch) (G : va_G) (Y : Nat → ClassId) (x : Nat) (ad : Nat → Nat) (d sc sz : Nat → Int32) (sg : Nat → Int64) (ik cp wt wa ch ct : Nat → Int32) (th : Int32) (k0 : Int32) (v0 : Int64) (hk : k0 = 0 ∨ k0 = 1 ∨ k0 = 2 ∨ k0 = 3 ∨ k0 = 4 ∨ k0 = 5) : ctJ l G Y (mW Y x ad) yX5_cut wsX5_cut ({ frames := 0, cells := 0, slots := 0, locals := 0 }) [.int k0, .long v0] (d, sc, sz, sg, ik, cp, wt, wa, ch, ct, th) (fun r u' => r = mCut k0 v0 ∧ u' = (d, sc, sz, sg, ik, cp, wt, wa, ch, ct, th)) := by
  refine ctJ.of (cc := cX5_cut) (maxL := 3) (ret := (some .long)) (by decide) rfl (Nat.le_of_ble_eq_true rfl) ?_
  intro A p e s m below meth c ls hB
  obtain ⟨F, hr, hlocks, hnm, hK, hA, hw, hl⟩ := hB
  obtain ⟨hx, hb, hml, hown, hts⟩ := id F
  have hl : lv_has ls 3 [(0, .int k0), (1, .long v0)] := hl
  refine lv_iload_n hx hb dX5_cut_0 rfl (lv_at hl 0 rfl) ?_
  rcases hk with rfl | rfl | rfl | rfl | rfl | rfl
  · skip
    refine lv_tableIn (off := 35) (tgt := 36) hx hb dX5_cut_1 (by decide) (by decide) (by decide) (by decide) ?_
    refine lv_lload_n hx hb dX5_cut_36 rfl (lv_at hl 1 rfl) ?_
    refine lv_bipush (v := 56) hx hb dX5_cut_37 (by decide) ?_
    refine lv_lshl hx hb dX5_cut_39 rfl ?_
    refine lv_bipush (v := 56) hx hb dX5_cut_40 (by decide) ?_
    refine lv_lshr hx hb dX5_cut_42 rfl ?_
    exact ct_lret hx hb hr hlocks hK hw dX5_cut_43 (Nat.le_of_ble_eq_true rfl) (Nat.le_of_ble_eq_true rfl) ⟨rfl, rfl⟩
  · skip
    refine lv_tableIn (off := 43) (tgt := 44) hx hb dX5_cut_1 (by decide) (by decide) (by decide) (by decide) ?_
    refine lv_lload_n hx hb dX5_cut_44 rfl (lv_at hl 1 rfl) ?_
    refine lv_ldc2 hx hb hown (hts (.constantLong RX5 55 (65535)) (by decide +kernel)) dX5_cut_45 ?_
    refine lv_land hx hb dX5_cut_48 ?_
    exact ct_lret hx hb hr hlocks hK hw dX5_cut_49 (Nat.le_of_ble_eq_true rfl) (Nat.le_of_ble_eq_true rfl) ⟨rfl, rfl⟩
  · skip
    refine lv_tableIn (off := 49) (tgt := 50) hx hb dX5_cut_1 (by decide) (by decide) (by decide) (by decide) ?_
    refine lv_lload_n hx hb dX5_cut_50 rfl (lv_at hl 1 rfl) ?_
    refine lv_bipush (v := 48) hx hb dX5_cut_51 (by decide) ?_
    refine lv_lshl hx hb dX5_cut_53 rfl ?_
    refine lv_bipush (v := 48) hx hb dX5_cut_54 (by decide) ?_
    refine lv_lshr hx hb dX5_cut_56 rfl ?_
    exact ct_lret hx hb hr hlocks hK hw dX5_cut_57 (Nat.le_of_ble_eq_true rfl) (Nat.le_of_ble_eq_true rfl) ⟨rfl, rfl⟩
  · skip
    refine lv_tableIn (off := 57) (tgt := 58) hx hb dX5_cut_1 (by decide) (by decide) (by decide) (by decide) ?_
    refine lv_lload_n hx hb dX5_cut_58 rfl (lv_at hl 1 rfl) ?_
    refine lv_bipush (v := 32) hx hb dX5_cut_59 (by decide) ?_
    refine lv_lshl hx hb dX5_cut_61 rfl ?_
    refine lv_bipush (v := 32) hx hb dX5_cut_62 (by decide) ?_
    refine lv_lshr hx hb dX5_cut_64 rfl ?_
    exact ct_lret hx hb hr hlocks hK hw dX5_cut_65 (Nat.le_of_ble_eq_true rfl) (Nat.le_of_ble_eq_true rfl) ⟨rfl, rfl⟩
  · skip
    refine lv_tableIn (off := 65) (tgt := 66) hx hb dX5_cut_1 (by decide) (by decide) (by decide) (by decide) ?_
    refine lv_lload_n hx hb dX5_cut_66 rfl (lv_at hl 1 rfl) ?_
    exact ct_lret hx hb hr hlocks hK hw dX5_cut_67 (Nat.le_of_ble_eq_true rfl) (Nat.le_of_ble_eq_true rfl) ⟨rfl, rfl⟩
  · skip
    refine lv_tableOut (tgt := 68) hx hb dX5_cut_1 (by decide) (by decide) ?_
    refine lv_lload_n hx hb dX5_cut_68 rfl (lv_at hl 1 rfl) ?_
    refine lv_lconst (v := 1) hx hb dX5_cut_69 (by decide) ?_
    refine lv_land hx hb dX5_cut_70 ?_
    exact ct_lret hx hb hr hlocks hK hw dX5_cut_71 (Nat.le_of_ble_eq_true rfl) (Nat.le_of_ble_eq_true rfl) ⟨rfl, rfl⟩

set_option maxHeartbeats 4000000 in
set_option maxRecDepth 100000 in
theorem c_m_unlike (l : Launch) (G : va_G) (Y : Nat → ClassId) (x : Nat) (ad : Nat → Nat) (d sc sz : Nat → Int32) (sg : Nat → Int64) (ik cp wt wa ch ct : Nat → Int32) (th : Int32) (p0 : Int32) (p1 : Int32) (hd : dOK d) (h0 : isD p0) (h1 : isD p1) : ctI l G Y (mW Y x ad) yX5_unlike wsX5_unlike ({ frames := 0, cells := 0, slots := 0, locals := 0 }) [.ref x, .int p0, .int p1] (d, sc, sz, sg, ik, cp, wt, wa, ch, ct, th) (fun r u' => r = mUnl d sc p0 p1 ∧ u' = (d, sc, sz, sg, ik, cp, wt, wa, ch, ct, th)) := by
  refine ctI.of (cc := cX5_unlike) (maxL := 5) (ret := (some .int)) (by decide) rfl (Nat.le_of_ble_eq_true rfl) ?_
  intro A p e s m below meth c ls hB
  obtain ⟨F, hr, hlocks, hnm, hK, hA, hw, hl⟩ := hB
  obtain ⟨hx, hb, hml, hown, hts⟩ := id F
  have hl : lv_has ls 5 [(0, .ref x), (1, .int p0), (2, .int p1)] := hl
  have hi : ∀ w ∈ wsX50, w ∈ wsX5_unlike := by decide +kernel
  have hl7 : Cond.fieldLink RX5 7 "ScriptoriumModel" "desk" "[I" ∈ wsX5_unlike := by decide +kernel
  have hl13 : Cond.fieldLink RX5 13 "ScriptoriumModel" "script" "[I" ∈ wsX5_unlike := by decide +kernel
  refine lv_aload_n hx hb dX5_unlike_0 rfl (lv_at hl 0 rfl) ?_
  refine m_get0 F hi hl7 hK hw dX5_unlike_1 ?_
  refine lv_iload_n hx hb dX5_unlike_4 rfl (lv_at hl 1 rfl) ?_
  refine m_ld0 F hK hw h0.in dX5_unlike_5 ?_
  refine lv_iconst (v := -1) hx hb dX5_unlike_6 (by decide) ?_
  refine lv_icmp_eq (tgt := 20) hx hb dX5_unlike_7 (by decide) (fun c_7 => ?_) (fun c_7 => ?_)
  · skip
    refine lv_iconst (v := -1) hx hb dX5_unlike_20 (by decide) ?_
    exact ct_iret hx hb hr (vp_nar_int _) hlocks hK hw dX5_unlike_21 (Nat.le_of_ble_eq_true rfl) (Nat.le_of_ble_eq_true rfl) ⟨by unfold mUnl; first | exact (if_pos (Or.inl c_7)).symm | exact (if_pos (Or.inr c_17)).symm, rfl⟩
  · skip
    refine lv_aload_n hx hb dX5_unlike_10 rfl (lv_at hl 0 rfl) ?_
    refine m_get0 F hi hl7 hK hw dX5_unlike_11 ?_
    refine lv_iload_n hx hb dX5_unlike_14 rfl (lv_at hl 2 rfl) ?_
    refine m_ld0 F hK hw h1.in dX5_unlike_15 ?_
    refine lv_iconst (v := -1) hx hb dX5_unlike_16 (by decide) ?_
    refine lv_icmp_ne (tgt := 22) hx hb dX5_unlike_17 (by decide) (fun c_17 => ?_) (fun c_17 => ?_)
    · skip
      refine lv_aload_n hx hb dX5_unlike_22 rfl (lv_at hl 0 rfl) ?_
      refine m_get0 F hi hl7 hK hw dX5_unlike_23 ?_
      refine lv_iload_n hx hb dX5_unlike_26 rfl (lv_at hl 1 rfl) ?_
      refine m_ld0 F hK hw h0.in dX5_unlike_27 ?_
      refine lv_bipush (v := -2) hx hb dX5_unlike_28 (by decide) ?_
      refine lv_icmp_eq (tgt := 44) hx hb dX5_unlike_30 (by decide) (fun c_30 => ?_) (fun c_30 => ?_)
      · skip
        refine lv_bipush (v := -2) hx hb dX5_unlike_44 (by decide) ?_
        exact ct_iret hx hb hr (vp_nar_int _) hlocks hK hw dX5_unlike_46 (Nat.le_of_ble_eq_true rfl) (Nat.le_of_ble_eq_true rfl) ⟨by unfold mUnl; rw [if_neg (fun h => h.elim c_7 c_17)]; first | exact (if_pos (Or.inl c_30)).symm | exact (if_pos (Or.inr c_41)).symm, rfl⟩
      · skip
        refine lv_aload_n hx hb dX5_unlike_33 rfl (lv_at hl 0 rfl) ?_
        refine m_get0 F hi hl7 hK hw dX5_unlike_34 ?_
        refine lv_iload_n hx hb dX5_unlike_37 rfl (lv_at hl 2 rfl) ?_
        refine m_ld0 F hK hw h1.in dX5_unlike_38 ?_
        refine lv_bipush (v := -2) hx hb dX5_unlike_39 (by decide) ?_
        refine lv_icmp_ne (tgt := 47) hx hb dX5_unlike_41 (by decide) (fun c_41 => ?_) (fun c_41 => ?_)
        · skip
          refine lv_aload_n hx hb dX5_unlike_47 rfl (lv_at hl 0 rfl) ?_
          refine m_get1 F hi hl13 hK hw dX5_unlike_48 ?_
          refine lv_aload_n hx hb dX5_unlike_51 rfl (lv_at hl 0 rfl) ?_
          refine m_get0 F hi hl7 hK hw dX5_unlike_52 ?_
          refine lv_iload_n hx hb dX5_unlike_55 rfl (lv_at hl 1 rfl) ?_
          refine m_ld0 F hK hw h0.in dX5_unlike_56 ?_
          refine m_ld1 F hK hw (hd.at h0 c_7 c_30).in dX5_unlike_57 ?_
          refine lv_istore_n (lv' := [(3, .int _), (0, .ref _), (1, .int _), (2, .int _)]) hx hb dX5_unlike_58 rfl hl (by decide) rfl (fun ls hl => ?_)
          refine lv_aload_n hx hb dX5_unlike_59 rfl (lv_at hl 1 rfl) ?_
          refine m_get1 F hi hl13 hK hw dX5_unlike_60 ?_
          refine lv_aload_n hx hb dX5_unlike_63 rfl (lv_at hl 1 rfl) ?_
          refine m_get0 F hi hl7 hK hw dX5_unlike_64 ?_
          refine lv_iload_n hx hb dX5_unlike_67 rfl (lv_at hl 3 rfl) ?_
          refine m_ld0 F hK hw h1.in dX5_unlike_68 ?_
          refine m_ld1 F hK hw (hd.at h1 c_17 c_41).in dX5_unlike_69 ?_
          refine lv_istore (lv' := [(4, .int _), (3, .int _), (0, .ref _), (1, .int _), (2, .int _)]) hx hb dX5_unlike_70 hl (by decide) rfl (fun ls hl => ?_)
          refine lv_iload_n hx hb dX5_unlike_72 rfl (lv_at hl 1 rfl) ?_
          refine lv_iload hx hb dX5_unlike_73 (lv_at hl 0 rfl) ?_
          refine lv_icmp_eq (tgt := 89) hx hb dX5_unlike_75 (by decide) (fun c_75 => ?_) (fun c_75 => ?_)
          · skip
            refine lv_iconst (v := 0) hx hb dX5_unlike_89 (by decide) ?_
            refine lv_goto (tgt := 95) hx hb dX5_unlike_90 (by decide) ?_
            exact ct_iret hx hb hr (vp_nar_int _) hlocks hK hw dX5_unlike_95 (Nat.le_of_ble_eq_true rfl) (Nat.le_of_ble_eq_true rfl) ⟨by unfold mUnl; rw [if_neg (fun h => h.elim c_7 c_17), if_neg (fun h => h.elim c_30 c_41)]; first | exact (if_pos (Or.inl c_75)).symm | exact (if_pos (Or.inr ⟨Int32.not_le.mp c_80, Int32.not_le.mp c_86⟩)).symm | (refine (if_neg ?_).symm; intro h; rcases h with h | ⟨h1, h2⟩; (exact c_75 h); (first | exact absurd h1 (Int32.not_lt.mpr c_80) | exact absurd h2 (Int32.not_lt.mpr c_86))), rfl⟩
          · skip
            refine lv_iload_n hx hb dX5_unlike_78 rfl (lv_at hl 1 rfl) ?_
            refine lv_iconst (v := 5) hx hb dX5_unlike_79 (by decide) ?_
            refine lv_icmp_le (tgt := 93) hx hb dX5_unlike_80 (by decide) (fun c_80 => ?_) (fun c_80 => ?_)
            · skip
              refine lv_bipush (v := -2) hx hb dX5_unlike_93 (by decide) ?_
              exact ct_iret hx hb hr (vp_nar_int _) hlocks hK hw dX5_unlike_95 (Nat.le_of_ble_eq_true rfl) (Nat.le_of_ble_eq_true rfl) ⟨by unfold mUnl; rw [if_neg (fun h => h.elim c_7 c_17), if_neg (fun h => h.elim c_30 c_41)]; first | exact (if_pos (Or.inl c_75)).symm | exact (if_pos (Or.inr ⟨Int32.not_le.mp c_80, Int32.not_le.mp c_86⟩)).symm | (refine (if_neg ?_).symm; intro h; rcases h with h | ⟨h1, h2⟩; (exact c_75 h); (first | exact absurd h1 (Int32.not_lt.mpr c_80) | exact absurd h2 (Int32.not_lt.mpr c_86))), rfl⟩
            · skip
              refine lv_iload hx hb dX5_unlike_83 (lv_at hl 0 rfl) ?_
              refine lv_iconst (v := 5) hx hb dX5_unlike_85 (by decide) ?_
              refine lv_icmp_le (tgt := 93) hx hb dX5_unlike_86 (by decide) (fun c_86 => ?_) (fun c_86 => ?_)
              · skip
                refine lv_bipush (v := -2) hx hb dX5_unlike_93 (by decide) ?_
                exact ct_iret hx hb hr (vp_nar_int _) hlocks hK hw dX5_unlike_95 (Nat.le_of_ble_eq_true rfl) (Nat.le_of_ble_eq_true rfl) ⟨by unfold mUnl; rw [if_neg (fun h => h.elim c_7 c_17), if_neg (fun h => h.elim c_30 c_41)]; first | exact (if_pos (Or.inl c_75)).symm | exact (if_pos (Or.inr ⟨Int32.not_le.mp c_80, Int32.not_le.mp c_86⟩)).symm | (refine (if_neg ?_).symm; intro h; rcases h with h | ⟨h1, h2⟩; (exact c_75 h); (first | exact absurd h1 (Int32.not_lt.mpr c_80) | exact absurd h2 (Int32.not_lt.mpr c_86))), rfl⟩
              · skip
                refine lv_iconst (v := 0) hx hb dX5_unlike_89 (by decide) ?_
                refine lv_goto (tgt := 95) hx hb dX5_unlike_90 (by decide) ?_
                exact ct_iret hx hb hr (vp_nar_int _) hlocks hK hw dX5_unlike_95 (Nat.le_of_ble_eq_true rfl) (Nat.le_of_ble_eq_true rfl) ⟨by unfold mUnl; rw [if_neg (fun h => h.elim c_7 c_17), if_neg (fun h => h.elim c_30 c_41)]; first | exact (if_pos (Or.inl c_75)).symm | exact (if_pos (Or.inr ⟨Int32.not_le.mp c_80, Int32.not_le.mp c_86⟩)).symm | (refine (if_neg ?_).symm; intro h; rcases h with h | ⟨h1, h2⟩; (exact c_75 h); (first | exact absurd h1 (Int32.not_lt.mpr c_80) | exact absurd h2 (Int32.not_lt.mpr c_86))), rfl⟩
        · skip
          refine lv_bipush (v := -2) hx hb dX5_unlike_44 (by decide) ?_
          exact ct_iret hx hb hr (vp_nar_int _) hlocks hK hw dX5_unlike_46 (Nat.le_of_ble_eq_true rfl) (Nat.le_of_ble_eq_true rfl) ⟨by unfold mUnl; rw [if_neg (fun h => h.elim c_7 c_17)]; first | exact (if_pos (Or.inl c_30)).symm | exact (if_pos (Or.inr c_41)).symm, rfl⟩
    · skip
      refine lv_iconst (v := -1) hx hb dX5_unlike_20 (by decide) ?_
      exact ct_iret hx hb hr (vp_nar_int _) hlocks hK hw dX5_unlike_21 (Nat.le_of_ble_eq_true rfl) (Nat.le_of_ble_eq_true rfl) ⟨by unfold mUnl; first | exact (if_pos (Or.inl c_7)).symm | exact (if_pos (Or.inr c_17)).symm, rfl⟩

set_option maxHeartbeats 4000000 in
set_option maxRecDepth 100000 in
theorem c_m_stone (l : Launch) (G : va_G) (Y : Nat → ClassId) (x : Nat) (ad : Nat → Nat) (d sc sz : Nat → Int32) (sg : Nat → Int64) (ik cp wt wa ch ct : Nat → Int32) (th : Int32) (p0 : Int32)  : ctI l G Y (mW Y x ad) yX5_stone wsX5_stone ({ frames := 1, cells := 0, slots := 0, locals := 40 }) [.ref x, .int p0] (d, sc, sz, sg, ik, cp, wt, wa, ch, ct, th) (fun r u' => (isD p0 ∧ r = 0 ∧ u' = (upd d (cl p0) (-2), sc, sz, sg, ik, cp, wt, wa, ch, ct, 0)) ∨ (¬ isD p0 ∧ r = -99 ∧ u' = (d, sc, sz, sg, ik, cp, wt, wa, ch, ct, 0))) := by
  refine ctI.of (cc := cX5_stone) (maxL := 2) (ret := (some .int)) (by decide) rfl (Nat.le_of_ble_eq_true rfl) ?_
  intro A p e s m below meth c ls hB
  obtain ⟨F, hr, hlocks, hnm, hK, hA, hw, hl⟩ := hB
  obtain ⟨hx, hb, hml, hown, hts⟩ := id F
  have hl : lv_has ls 2 [(0, .ref x), (1, .int p0)] := hl
  have hi : ∀ w ∈ wsX50, w ∈ wsX5_stone := by decide +kernel
  have hl7 : Cond.fieldLink RX5 7 "ScriptoriumModel" "desk" "[I" ∈ wsX5_stone := by decide +kernel
  have hl41 : Cond.fieldLink RX5 41 "ScriptoriumModel" "thrown" "I" ∈ wsX5_stone := by decide +kernel
  refine lv_aload_n hx hb dX5_stone_0 rfl (lv_at hl 0 rfl) ?_
  refine lv_iconst (v := 0) hx hb dX5_stone_1 (by decide) ?_
  refine m_put10 F hi hl41 hK hw dX5_stone_2 (fun H locs hw => ?_)
  refine lv_iload_n hx hb dX5_stone_5 rfl (lv_at hl 1 rfl) ?_
  refine (c_m_isDesk l G Y x ad _ _ _ _ _ _ _ _ _ _ _ _).callS F (va_cwS 1 hts gX5_stone_X5_isDesk rfl rfl rfl (by decide +kernel) ⟨Nat.le_of_ble_eq_true rfl, Nat.le_of_ble_eq_true rfl⟩) hK hw hA rfl rfl hl.1 (by decide) dX5_stone_6 ⟨Nat.le_of_ble_eq_true rfl, Nat.le_of_ble_eq_true rfl⟩ (fun r_6 u_6 H locs hp_6 hw => ?_)
  obtain ⟨rfl, ⟨hq_6, rfl⟩ | ⟨hq_6, rfl⟩⟩ := hp_6
  · skip
    refine lv_if_ne (tgt := 15) hx hb dX5_stone_9 (by decide) (fun c_9 => ?_) (fun c_9 => ?_)
    · skip
      refine lv_aload_n hx hb dX5_stone_15 rfl (lv_at hl 0 rfl) ?_
      refine m_get0 F hi hl7 hK hw dX5_stone_16 ?_
      refine lv_iload_n hx hb dX5_stone_19 rfl (lv_at hl 1 rfl) ?_
      refine lv_bipush (v := -2) hx hb dX5_stone_20 (by decide) ?_
      refine m_st0 F hK hw hq_6.in dX5_stone_22 (fun H locs hw => ?_)
      refine lv_iconst (v := 0) hx hb dX5_stone_23 (by decide) ?_
      exact ct_iret hx hb hr (vp_nar_int _) hlocks hK hw dX5_stone_24 (Nat.le_of_ble_eq_true rfl) (Nat.le_of_ble_eq_true rfl) (Or.inl ⟨hq_6, rfl, rfl⟩)
    · exact absurd c_9 (by decide)
  · skip
    refine lv_if_ne (tgt := 15) hx hb dX5_stone_9 (by decide) (fun c_9 => ?_) (fun c_9 => ?_)
    · exact absurd rfl c_9
    · skip
      refine lv_bipush (v := -99) hx hb dX5_stone_12 (by decide) ?_
      exact ct_iret hx hb hr (vp_nar_int _) hlocks hK hw dX5_stone_14 (Nat.le_of_ble_eq_true rfl) (Nat.le_of_ble_eq_true rfl) (Or.inr ⟨hq_6, rfl, rfl⟩)

set_option maxHeartbeats 4000000 in
set_option maxRecDepth 100000 in
theorem c_m_clear (l : Launch) (G : va_G) (Y : Nat → ClassId) (x : Nat) (ad : Nat → Nat) (d sc sz : Nat → Int32) (sg : Nat → Int64) (ik cp wt wa ch ct : Nat → Int32) (th : Int32) (p0 : Int32)  : ctI l G Y (mW Y x ad) yX5_clear wsX5_clear ({ frames := 1, cells := 0, slots := 0, locals := 40 }) [.ref x, .int p0] (d, sc, sz, sg, ik, cp, wt, wa, ch, ct, th) (fun r u' => (isD p0 ∧ r = 0 ∧ u' = (upd d (cl p0) (-1), sc, sz, sg, ik, cp, wt, wa, ch, ct, 0)) ∨ (¬ isD p0 ∧ r = -99 ∧ u' = (d, sc, sz, sg, ik, cp, wt, wa, ch, ct, 0))) := by
  refine ctI.of (cc := cX5_clear) (maxL := 2) (ret := (some .int)) (by decide) rfl (Nat.le_of_ble_eq_true rfl) ?_
  intro A p e s m below meth c ls hB
  obtain ⟨F, hr, hlocks, hnm, hK, hA, hw, hl⟩ := hB
  obtain ⟨hx, hb, hml, hown, hts⟩ := id F
  have hl : lv_has ls 2 [(0, .ref x), (1, .int p0)] := hl
  have hi : ∀ w ∈ wsX50, w ∈ wsX5_clear := by decide +kernel
  have hl7 : Cond.fieldLink RX5 7 "ScriptoriumModel" "desk" "[I" ∈ wsX5_clear := by decide +kernel
  have hl41 : Cond.fieldLink RX5 41 "ScriptoriumModel" "thrown" "I" ∈ wsX5_clear := by decide +kernel
  refine lv_aload_n hx hb dX5_clear_0 rfl (lv_at hl 0 rfl) ?_
  refine lv_iconst (v := 0) hx hb dX5_clear_1 (by decide) ?_
  refine m_put10 F hi hl41 hK hw dX5_clear_2 (fun H locs hw => ?_)
  refine lv_iload_n hx hb dX5_clear_5 rfl (lv_at hl 1 rfl) ?_
  refine (c_m_isDesk l G Y x ad _ _ _ _ _ _ _ _ _ _ _ _).callS F (va_cwS 1 hts gX5_clear_X5_isDesk rfl rfl rfl (by decide +kernel) ⟨Nat.le_of_ble_eq_true rfl, Nat.le_of_ble_eq_true rfl⟩) hK hw hA rfl rfl hl.1 (by decide) dX5_clear_6 ⟨Nat.le_of_ble_eq_true rfl, Nat.le_of_ble_eq_true rfl⟩ (fun r_6 u_6 H locs hp_6 hw => ?_)
  obtain ⟨rfl, ⟨hq_6, rfl⟩ | ⟨hq_6, rfl⟩⟩ := hp_6
  · skip
    refine lv_if_ne (tgt := 15) hx hb dX5_clear_9 (by decide) (fun c_9 => ?_) (fun c_9 => ?_)
    · skip
      refine lv_aload_n hx hb dX5_clear_15 rfl (lv_at hl 0 rfl) ?_
      refine m_get0 F hi hl7 hK hw dX5_clear_16 ?_
      refine lv_iload_n hx hb dX5_clear_19 rfl (lv_at hl 1 rfl) ?_
      refine lv_iconst (v := -1) hx hb dX5_clear_20 (by decide) ?_
      refine m_st0 F hK hw hq_6.in dX5_clear_21 (fun H locs hw => ?_)
      refine lv_iconst (v := 0) hx hb dX5_clear_22 (by decide) ?_
      exact ct_iret hx hb hr (vp_nar_int _) hlocks hK hw dX5_clear_23 (Nat.le_of_ble_eq_true rfl) (Nat.le_of_ble_eq_true rfl) (Or.inl ⟨hq_6, rfl, rfl⟩)
    · exact absurd c_9 (by decide)
  · skip
    refine lv_if_ne (tgt := 15) hx hb dX5_clear_9 (by decide) (fun c_9 => ?_) (fun c_9 => ?_)
    · exact absurd rfl c_9
    · skip
      refine lv_bipush (v := -99) hx hb dX5_clear_12 (by decide) ?_
      exact ct_iret hx hb hr (vp_nar_int _) hlocks hK hw dX5_clear_14 (Nat.le_of_ble_eq_true rfl) (Nat.le_of_ble_eq_true rfl) (Or.inr ⟨hq_6, rfl, rfl⟩)

set_option maxHeartbeats 4000000 in
set_option maxRecDepth 100000 in
theorem c_m_share (l : Launch) (G : va_G) (Y : Nat → ClassId) (x : Nat) (ad : Nat → Nat) (d sc sz : Nat → Int32) (sg : Nat → Int64) (ik cp wt wa ch ct : Nat → Int32) (th : Int32) (p0 : Int32) (p1 : Int32)  : ctI l G Y (mW Y x ad) yX5_share wsX5_share ({ frames := 1, cells := 0, slots := 0, locals := 40 }) [.ref x, .int p0, .int p1] (d, sc, sz, sg, ik, cp, wt, wa, ch, ct, th) (fun r u' => (isD p0 ∧ isD p1 ∧ r = 0 ∧ u' = (upd d (cl p1) (d (cl p0)), sc, sz, sg, ik, cp, wt, wa, ch, ct, 0)) ∨ (¬ (isD p0 ∧ isD p1) ∧ r = -99 ∧ u' = (d, sc, sz, sg, ik, cp, wt, wa, ch, ct, 0))) := by
  refine ctI.of (cc := cX5_share) (maxL := 3) (ret := (some .int)) (by decide) rfl (Nat.le_of_ble_eq_true rfl) ?_
  intro A p e s m below meth c ls hB
  obtain ⟨F, hr, hlocks, hnm, hK, hA, hw, hl⟩ := hB
  obtain ⟨hx, hb, hml, hown, hts⟩ := id F
  have hl : lv_has ls 3 [(0, .ref x), (1, .int p0), (2, .int p1)] := hl
  have hi : ∀ w ∈ wsX50, w ∈ wsX5_share := by decide +kernel
  have hl7 : Cond.fieldLink RX5 7 "ScriptoriumModel" "desk" "[I" ∈ wsX5_share := by decide +kernel
  have hl41 : Cond.fieldLink RX5 41 "ScriptoriumModel" "thrown" "I" ∈ wsX5_share := by decide +kernel
  refine lv_aload_n hx hb dX5_share_0 rfl (lv_at hl 0 rfl) ?_
  refine lv_iconst (v := 0) hx hb dX5_share_1 (by decide) ?_
  refine m_put10 F hi hl41 hK hw dX5_share_2 (fun H locs hw => ?_)
  refine lv_iload_n hx hb dX5_share_5 rfl (lv_at hl 1 rfl) ?_
  refine (c_m_isDesk l G Y x ad _ _ _ _ _ _ _ _ _ _ _ _).callS F (va_cwS 1 hts gX5_share_X5_isDesk rfl rfl rfl (by decide +kernel) ⟨Nat.le_of_ble_eq_true rfl, Nat.le_of_ble_eq_true rfl⟩) hK hw hA rfl rfl hl.1 (by decide) dX5_share_6 ⟨Nat.le_of_ble_eq_true rfl, Nat.le_of_ble_eq_true rfl⟩ (fun r_6 u_6 H locs hp_6 hw => ?_)
  obtain ⟨rfl, ⟨hq_6, rfl⟩ | ⟨hq_6, rfl⟩⟩ := hp_6
  · skip
    refine lv_if_eq (tgt := 19) hx hb dX5_share_9 (by decide) (fun c_9 => ?_) (fun c_9 => ?_)
    · exact absurd c_9 (by decide)
    · skip
      refine lv_iload_n hx hb dX5_share_12 rfl (lv_at hl 2 rfl) ?_
      refine (c_m_isDesk l G Y x ad _ _ _ _ _ _ _ _ _ _ _ _).callS F (va_cwS 1 hts gX5_share_X5_isDesk rfl rfl rfl (by decide +kernel) ⟨Nat.le_of_ble_eq_true rfl, Nat.le_of_ble_eq_true rfl⟩) hK hw hA rfl rfl hl.1 (by decide) dX5_share_13 ⟨Nat.le_of_ble_eq_true rfl, Nat.le_of_ble_eq_true rfl⟩ (fun r_13 u_13 H locs hp_13 hw => ?_)
      obtain ⟨rfl, ⟨hq_13, rfl⟩ | ⟨hq_13, rfl⟩⟩ := hp_13
      · skip
        refine lv_if_ne (tgt := 22) hx hb dX5_share_16 (by decide) (fun c_16 => ?_) (fun c_16 => ?_)
        · skip
          refine lv_aload_n hx hb dX5_share_22 rfl (lv_at hl 0 rfl) ?_
          refine m_get0 F hi hl7 hK hw dX5_share_23 ?_
          refine lv_iload_n hx hb dX5_share_26 rfl (lv_at hl 2 rfl) ?_
          refine lv_aload_n hx hb dX5_share_27 rfl (lv_at hl 0 rfl) ?_
          refine m_get0 F hi hl7 hK hw dX5_share_28 ?_
          refine lv_iload_n hx hb dX5_share_31 rfl (lv_at hl 1 rfl) ?_
          refine m_ld0 F hK hw hq_6.in dX5_share_32 ?_
          refine m_st0 F hK hw hq_13.in dX5_share_33 (fun H locs hw => ?_)
          refine lv_iconst (v := 0) hx hb dX5_share_34 (by decide) ?_
          exact ct_iret hx hb hr (vp_nar_int _) hlocks hK hw dX5_share_35 (Nat.le_of_ble_eq_true rfl) (Nat.le_of_ble_eq_true rfl) (Or.inl ⟨hq_6, hq_13, rfl, rfl⟩)
        · exact absurd c_16 (by decide)
      · skip
        refine lv_if_ne (tgt := 22) hx hb dX5_share_16 (by decide) (fun c_16 => ?_) (fun c_16 => ?_)
        · exact absurd rfl c_16
        · skip
          refine lv_bipush (v := -99) hx hb dX5_share_19 (by decide) ?_
          exact ct_iret hx hb hr (vp_nar_int _) hlocks hK hw dX5_share_21 (Nat.le_of_ble_eq_true rfl) (Nat.le_of_ble_eq_true rfl) (by first | exact Or.inr ⟨fun h => hq_6 h.1, rfl, rfl⟩ | exact Or.inr ⟨fun h => hq_13 h.2, rfl, rfl⟩)
  · skip
    refine lv_if_eq (tgt := 19) hx hb dX5_share_9 (by decide) (fun c_9 => ?_) (fun c_9 => ?_)
    · skip
      refine lv_bipush (v := -99) hx hb dX5_share_19 (by decide) ?_
      exact ct_iret hx hb hr (vp_nar_int _) hlocks hK hw dX5_share_21 (Nat.le_of_ble_eq_true rfl) (Nat.le_of_ble_eq_true rfl) (by first | exact Or.inr ⟨fun h => hq_6 h.1, rfl, rfl⟩ | exact Or.inr ⟨fun h => hq_13 h.2, rfl, rfl⟩)
    · exact absurd rfl c_9
end
section
/-! the reference's larger methods, as relations -/
theorem ix40 (b k : Nat) : (40 : Int32) * nI b + nI k = nI (40 * b + k) := by
  rw [show (40 : Int32) = nI 40 from rfl, pk_mul, nI_add]
theorem ix40b (b i k : Nat) : (40 : Int32) * nI b + nI i + nI k = nI (40 * b + i + k) := by
  rw [ix40, nI_add]
theorem cl_nI {n : Nat} (h : n < 2 ^ 31) : cl (nI n) = n := nI_clamp h
theorem in40 {b k : Nat} (hb : b < 6) (hk : k < 40) : vp_in ((40 : Int32) * nI b + nI k) 240 := by
  rw [ix40]; exact vp_in_nI (by omega) (by decide)
theorem in40b {b i k : Nat} (hb : b < 6) (hk : i + k < 40) : vp_in ((40 : Int32) * nI b + nI i + nI k) 240 := by
  rw [ix40b]; exact vp_in_nI (by omega) (by decide)
theorem cl40 {b k : Nat} (hb : b < 6) (hk : k < 40) : cl ((40 : Int32) * nI b + nI k) = 40 * b + k := by
  rw [ix40]; exact nI_clamp (by omega)
theorem cl40b {b i k : Nat} (hb : b < 6) (hk : i + k < 40) : cl ((40 : Int32) * nI b + nI i + nI k) = 40 * b + i + k := by
  rw [ix40b]; exact nI_clamp (by omega)
/-- six books, five other desks -/
theorem pigN : ∀ (n : Nat) (f : Nat → Nat), (∀ j, j ≤ n → f j < n) → ∃ i j, i < j ∧ j ≤ n ∧ f i = f j := by
  intro n
  induction n with
  | zero => intro f h; exact absurd (h 0 (Nat.le_refl 0)) (Nat.not_lt_zero _)
  | succ n ih =>
    intro f h
    by_cases hx : ∃ i, i ≤ n ∧ f i = f (n + 1)
    · obtain ⟨i, hi, e⟩ := hx
      exact ⟨i, n + 1, by omega, Nat.le_refl _, e⟩
    · have hno : ∀ i, i ≤ n → f i ≠ f (n + 1) := fun i hi e => hx ⟨i, hi, e⟩
      obtain ⟨i, j, hij, hj, e⟩ := ih (fun i => if f i = n then f (n + 1) else f i) (fun j hj => by
        have h1 := h j (by omega)
        have h2 := h (n + 1) (Nat.le_refl _)
        have h3 := hno j hj
        show (if f j = n then f (n + 1) else f j) < n
        by_cases hn : f j = n
        · rw [if_pos hn]; omega
        · rw [if_neg hn]; omega)
      have e : (if f i = n then f (n + 1) else f i) = (if f j = n then f (n + 1) else f j) := e
      have h3 := hno i (by omega)
      have h4 := hno j hj
      refine ⟨i, j, hij, by omega, ?_⟩
      by_cases h1 : f i = n
      · by_cases h2 : f j = n
        · omega
        · rw [if_pos h1, if_neg h2] at e; exact absurd e.symm h4
      · by_cases h2 : f j = n
        · rw [if_neg h1, if_pos h2] at e; exact absurd e h3
        · rw [if_neg h1, if_neg h2] at e; exact e
theorem mPig {d : Nat → Int32} {p0 : Int32} (hp : isD p0) (h : ∀ j, j < 6 → mUsed d (nI j) p0) : False := by
  obtain ⟨q, hq, rfl⟩ := hp.nat
  have hex : ∃ w : Nat → Nat, ∀ j, j < 6 → w j < 6 ∧ w j ≠ q ∧ d (w j) = nI j := by
    refine ⟨fun j => if hj : j < 6 then (h j hj).choose else 0, fun j hj => ?_⟩
    simp only [dif_pos hj]
    have hs := (h j hj).choose_spec
    exact ⟨hs.1, fun e => hs.2.1 (by rw [e]), hs.2.2⟩
  obtain ⟨w, hw⟩ := hex
  obtain ⟨i, j, hij, hj, e⟩ := pigN 5 (fun j => if w j < q then w j else w j - 1) (fun j hj => by
    obtain ⟨h1, h2, -⟩ := hw j (by omega)
    show (if w j < q then w j else w j - 1) < 5
    by_cases hn : w j < q
    · rw [if_pos hn]; omega
    · rw [if_neg hn]; omega)
  have e : (if w i < q then w i else w i - 1) = (if w j < q then w j else w j - 1) := e
  obtain ⟨a1, a2, a3⟩ := hw i (by omega)
  obtain ⟨b1, b2, b3⟩ := hw j (by omega)
  have hwe : w i = w j := by
    by_cases h1 : w i < q
    · by_cases h2 : w j < q
      · rw [if_pos h1, if_pos h2] at e; exact e
      · rw [if_pos h1, if_neg h2] at e; omega
    · by_cases h2 : w j < q
      · rw [if_neg h1, if_pos h2] at e; omega
      · rw [if_neg h1, if_neg h2] at e; omega
  have := (nI_eq (by omega) (by omega)).mp (a3.symm.trans (hwe ▸ b3))
  omega
/-- a block of the signs is emptied -/
def mZero (sg : Nat → Int64) (b k : Nat) : Nat → Int64 := fun q => if 40 * b ≤ q ∧ q < 40 * b + k then 0 else sg q
theorem mZero_0 (sg : Nat → Int64) (b : Nat) : mZero sg b 0 = sg := by
  funext q; unfold mZero; rw [if_neg (by omega)]
theorem mZero_s (sg : Nat → Int64) (b k : Nat) : vp_updL (mZero sg b k) (40 * b + k) 0 = mZero sg b (k + 1) := by
  funext q; unfold mZero vp_updL
  by_cases h : q = 40 * b + k
  · rw [if_pos h, if_pos (by omega)]
  · rw [if_neg h]; dsimp only
    by_cases h2 : 40 * b ≤ q ∧ q < 40 * b + k
    · rw [if_pos h2, if_pos (by omega)]
    · rw [if_neg h2, if_neg (by omega)]
/-- copying a stretch: what lies from D + lo to D + hi comes from S on -/
def mCpy (sg : Nat → Int64) (S D lo hi : Nat) : Nat → Int64 := fun q => if D + lo ≤ q ∧ q < D + hi then sg (S + (q - D)) else sg q
theorem mCpy_0 (sg : Nat → Int64) (S D k : Nat) : mCpy sg S D k k = sg := by
  funext q; unfold mCpy; rw [if_neg (by omega)]
theorem mCpy_up (sg : Nat → Int64) (S D lo hi : Nat) (h : lo ≤ hi) : vp_updL (mCpy sg S D lo hi) (D + hi) (sg (S + hi)) = mCpy sg S D lo (hi + 1) := by
  funext q; unfold mCpy vp_updL
  by_cases e : q = D + hi
  · rw [if_pos e, if_pos (by omega), e, Nat.add_sub_cancel_left]
  · rw [if_neg e]; dsimp only
    by_cases h2 : D + lo ≤ q ∧ q < D + hi
    · rw [if_pos h2, if_pos (by omega)]
    · rw [if_neg h2, if_neg (by omega)]
theorem mCpy_dn (sg : Nat → Int64) (S D lo hi : Nat) (h : lo < hi) : vp_updL (mCpy sg S D (lo + 1) hi) (D + lo) (sg (S + lo)) = mCpy sg S D lo hi := by
  funext q; unfold mCpy vp_updL
  by_cases e : q = D + lo
  · rw [if_pos e, if_pos (by omega), e, Nat.add_sub_cancel_left]
  · rw [if_neg e]; dsimp only
    by_cases h2 : D + (lo + 1) ≤ q ∧ q < D + hi
    · rw [if_pos h2, if_pos (by omega)]
    · rw [if_neg h2, if_neg (by omega)]
theorem mCpy_out (sg : Nat → Int64) {S D lo hi q : Nat} (h : q < D + lo ∨ D + hi ≤ q) : mCpy sg S D lo hi q = sg q := by
  unfold mCpy; rw [if_neg (by omega)]
/-- the sign at k of the passage may not stand in the book bt -/
def mBad (sc : Nat → Int32) (sg : Nat → Int64) (bf bt ii k : Nat) : Prop := 5 < sc bf ∧ ¬ mMay (sc bt) (sg (40 * bf + ii + k))
def mStop (sc : Nat → Int32) (sg : Nat → Int64) (bf bt ii nn st : Nat) : Prop := st ≤ nn ∧ (∀ k, k < st → ¬ mBad sc sg bf bt ii k) ∧ (st < nn → mBad sc sg bf bt ii st)
def mFit (i j n zf zt : Int32) : Prop := ¬ i < 0 ∧ ¬ j < 0 ∧ ¬ n < 0 ∧ ¬ zf < n ∧ ¬ zt < n ∧ ¬ zf - n < i ∧ j ≤ zt - n
theorem mFit_nat {i j n : Int32} {nf nt : Nat} (hf : nf ≤ 40) (ht : nt ≤ 40) (h : mFit i j n (nI nf) (nI nt)) : ∃ ii jj nn : Nat, i = nI ii ∧ j = nI jj ∧ n = nI nn ∧ ii + nn ≤ nf ∧ jj + nn ≤ nt := by
  obtain ⟨h1, h2, h3, h4, h5, h6, h7⟩ := h
  obtain ⟨ii, hi, rfl⟩ := nI_of h1
  obtain ⟨jj, hj, rfl⟩ := nI_of h2
  obtain ⟨nn, hn, rfl⟩ := nI_of h3
  rw [nI_ltI (by omega) hn] at h4 h5
  rw [pk_sub (by omega)] at h6 h7
  rw [nI_ltI (by omega) hi] at h6
  rw [nI_leI hj (by omega)] at h7
  exact ⟨ii, jj, nn, rfl, rfl, rfl, by omega, by omega⟩
theorem mUnl_0 {d sc : Nat → Int32} {a b : Int32} (h : mUnl d sc a b = 0) : (¬ d (cl a) = -1 ∧ ¬ d (cl b) = -1) ∧ (¬ d (cl a) = -2 ∧ ¬ d (cl b) = -2) ∧ (sc (cl (d (cl a))) = sc (cl (d (cl b))) ∨ (5 < sc (cl (d (cl a))) ∧ 5 < sc (cl (d (cl b))))) := by
  unfold mUnl at h
  by_cases h1 : d (cl a) = -1 ∨ d (cl b) = -1
  · rw [if_pos h1] at h; exact absurd h (by decide)
  · rw [if_neg h1] at h
    by_cases h2 : d (cl a) = -2 ∨ d (cl b) = -2
    · rw [if_pos h2] at h; exact absurd h (by decide)
    · rw [if_neg h2] at h
      by_cases h3 : sc (cl (d (cl a))) = sc (cl (d (cl b))) ∨ (5 < sc (cl (d (cl a))) ∧ 5 < sc (cl (d (cl b))))
      · exact ⟨⟨fun q => h1 (Or.inl q), fun q => h1 (Or.inr q)⟩, ⟨fun q => h2 (Or.inl q), fun q => h2 (Or.inr q)⟩, h3⟩
      · rw [if_neg h3] at h; exact absurd h (by decide)
theorem mUnl_rng (d sc : Nat → Int32) (a b : Int32) : mUnl d sc a b = -1 ∨ mUnl d sc a b = -2 ∨ mUnl d sc a b = 0 := by
  unfold mUnl
  by_cases h1 : d (cl a) = -1 ∨ d (cl b) = -1
  · rw [if_pos h1]; exact Or.inl rfl
  · rw [if_neg h1]
    by_cases h2 : d (cl a) = -2 ∨ d (cl b) = -2
    · rw [if_pos h2]; exact Or.inr (Or.inl rfl)
    · rw [if_neg h2]
      by_cases h3 : sc (cl (d (cl a))) = sc (cl (d (cl b))) ∨ (5 < sc (cl (d (cl a))) ∧ 5 < sc (cl (d (cl b))))
      · rw [if_pos h3]; exact Or.inr (Or.inr rfl)
      · rw [if_neg h3]; exact Or.inr (Or.inl rfl)
/-- a passage in the reference -/
def mPassP (d sc sz : Nat → Int32) (sg : Nat → Int64) (p0 p1 p2 p3 p4 : Int32) (r : Int32) (sg' : Nat → Int64) : Prop :=
  (¬ mUnl d sc p0 p2 = 0 ∧ r = mUnl d sc p0 p2 ∧ sg' = sg) ∨
  (mUnl d sc p0 p2 = 0 ∧ ¬ mFit p1 p3 p4 (sz (cl (d (cl p0)))) (sz (cl (d (cl p2)))) ∧ r = -3 ∧ sg' = sg) ∨
  (mUnl d sc p0 p2 = 0 ∧ ∃ bf bt ii jj nn nf nt st : Nat, bf < 6 ∧ bt < 6 ∧ d (cl p0) = nI bf ∧ d (cl p2) = nI bt ∧ p1 = nI ii ∧ p3 = nI jj ∧ p4 = nI nn ∧ sz bf = nI nf ∧ sz bt = nI nt ∧ nf ≤ 40 ∧ nt ≤ 40 ∧ ii + nn ≤ nf ∧ jj + nn ≤ nt ∧ mStop sc sg bf bt ii nn st ∧ r = (if st < nn then -10 - nI st else nI nn) ∧ sg' = mCpy sg (40 * bf + ii) (40 * bt + jj) 0 st)
theorem m10 : ∀ k : Fin 41, ¬ (-10 - nI k.val : Int32) = -1 ∧ (-10 - nI k.val : Int32) ≤ -10 := by decide +kernel
theorem mPass_rng {d sc sz : Nat → Int32} {sg : Nat → Int64} {p0 p1 p2 p3 p4 r : Int32} {sg' : Nat → Int64} (h : mPassP d sc sz sg p0 p1 p2 p3 p4 r sg') : r = -1 ∨ r = -2 ∨ r = -3 ∨ (∃ k : Nat, k ≤ 40 ∧ r = nI k) ∨ (∃ k : Nat, k < 40 ∧ r = -10 - nI k) := by
  rcases h with ⟨h1, rfl, -⟩ | ⟨-, -, rfl, -⟩ | ⟨-, bf, bt, ii, jj, nn, nf, nt, st, -, -, -, -, -, -, -, -, -, h1, -, h2, -, h3, rfl, -⟩
  · rcases mUnl_rng d sc p0 p2 with q | q | q
    · exact Or.inl q
    · exact Or.inr (Or.inl q)
    · exact absurd q h1
  · exact Or.inr (Or.inr (Or.inl rfl))
  · by_cases hs : st < nn
    · rw [if_pos hs]; exact Or.inr (Or.inr (Or.inr (Or.inr ⟨st, by omega, rfl⟩)))
    · rw [if_neg hs]; exact Or.inr (Or.inr (Or.inr (Or.inl ⟨nn, by omega, rfl⟩)))
/-- signs that an answer says were copied -/
def mDone (r : Int32) : Int32 := if r ≤ -10 then -10 - r else if 0 < r then r else 0
/-- the tally that an answer falls to -/
def mTal (r : Int32) : Int32 := if ¬ r < 0 then 1 else if r ≤ -10 then 5 else 1 - r
def mCh (ch : Nat → Int32) (at_ s a b r : Int32) : Nat → Int32 := upd (upd (upd (upd ch (cl (4 * at_)) s) (cl (4 * at_ + 1)) a) (cl (4 * at_ + 2)) b) (cl (4 * at_ + 3)) r
def mAt (ct : Nat → Int32) : Int32 := ct 0 - ct 0 / 16 * 16
def mCt (ct : Nat → Int32) (r : Int32) : Nat → Int32 := upd (upd (upd ct 6 (ct 6 + mDone r)) 0 (ct 0 + 1)) (cl (mTal r)) (upd (upd ct 6 (ct 6 + mDone r)) 0 (ct 0 + 1) (cl (mTal r)) + 1)
/-- copy in the reference -/
def mCopyP (u : MS) (p0 p1 p2 p3 p4 p5 : Int32) (r : Int32) (u' : MS) : Prop := match u with
  | (d, sc, sz, sg, ik, cp, wt, wa, ch, ct, _) =>
    (¬ (isS p0 ∧ isD p1 ∧ isD p3) ∧ r = -99 ∧ u' = (d, sc, sz, sg, ik, cp, wt, wa, ch, ct, 0)) ∨
    ((isS p0 ∧ isD p1 ∧ isD p3) ∧ ik (cl p0) < p5 ∧ r = -50 ∧ u' = (d, sc, sz, sg, ik, cp, wt, wa, ch, ct, 0)) ∨
    ((isS p0 ∧ isD p1 ∧ isD p3) ∧ ¬ ik (cl p0) < p5 ∧ ∃ sg', mPassP d sc sz sg p1 p2 p3 p4 p5 r sg' ∧ u' = (d, sc, sz, sg', upd ik (cl p0) (ik (cl p0) - mDone r), upd cp (cl p0) (cp (cl p0) + mDone r), wt, wa, mCh ch (mAt ct) p0 p1 p3 r, mCt ct r, 0))
def c0OK (ct : Nat → Int32) (c0 : Nat) : Prop := ct 0 = nI c0 ∧ c0 < 2 ^ 30
theorem mAt_nat {ct : Nat → Int32} {c0 : Nat} (h : c0OK ct c0) : mAt ct = nI (c0 % 16) := by
  unfold mAt; rw [h.1, show (16 : Int32) = nI 16 from rfl]; exact pk_rem (by have := h.2; omega) (by decide) (by decide)
theorem in4 {c0 : Nat} {ct : Nat → Int32} (h : c0OK ct c0) (k : Nat) (hk : k < 4) : vp_in (4 * mAt ct + nI k) 64 := by
  rw [mAt_nat h, show (4 : Int32) = nI 4 from rfl, pk_mul, nI_add]; exact vp_in_nI (by omega) (by decide)
theorem in4' {c0 : Nat} {ct : Nat → Int32} (h : c0OK ct c0) : vp_in (4 * mAt ct) 64 := by
  rw [mAt_nat h, show (4 : Int32) = nI 4 from rfl, pk_mul]; exact vp_in_nI (by omega) (by decide)
theorem in_le {x M : Int32} {n : Nat} (hM : M.toInt + 1 = n) (h1 : ¬ x < 0) (h2 : x ≤ M) : vp_in x n := by
  rw [vp_in_iff]
  rw [Int32.lt_iff_toInt_lt] at h1
  rw [Int32.le_iff_toInt_le] at h2
  have h0 : (0 : Int32).toInt = 0 := rfl
  omega
def mFil (x : Int32) : Int32 := if x ≤ 1000 then x else 1000
def mRow (ct : Nat → Int32) (k : Int32) : Int32 := (ct 0 - 1 - k) - (ct 0 - 1 - k) / 16 * 16
theorem mRow_nat {ct : Nat → Int32} {c0 k : Nat} (h : c0OK ct c0) (hk : k < c0) : mRow ct (nI k) = nI ((c0 - 1 - k) % 16) := by
  have h2 := h.2
  unfold mRow
  rw [h.1, show (16 : Int32) = nI 16 from rfl, show (1 : Int32) = nI 1 from rfl, pk_sub (by omega), pk_sub (by omega)]
  exact pk_rem (by omega) (by decide) (by decide)
theorem inRow {ct : Nat → Int32} {c0 : Nat} {p0 p1 : Int32} (h : c0OK ct c0) (h1 : ¬ p0 < 0) (h2 : ¬ ct 0 ≤ p0) (h3 : ¬ p1 < 0) (h4 : p1 ≤ 3) : vp_in (4 * mRow ct p0 + p1) 64 := by
  have h5 := h.2
  obtain ⟨k, hk, rfl⟩ := nI_of h1
  rw [h.1, nI_leI (by omega) hk] at h2
  obtain ⟨w, hw, rfl⟩ := vp_in_of (in_le (n := 4) (M := 3) rfl h3 h4) (by decide)
  rw [mRow_nat h (by omega), show (4 : Int32) = nI 4 from rfl, pk_mul, nI_add]
  exact vp_in_nI (by omega) (by decide)
theorem inSign {d sz : Nat → Int32} (hd : dOK d) (hz : zOK sz) {p0 p1 : Int32} (h0 : isD p0) (h1 : ¬ d (cl p0) < 0) (h2 : ¬ p1 < 0) (h3 : p1 < sz (cl (d (cl p0)))) : ∃ b k : Nat, b < 6 ∧ k < 40 ∧ d (cl p0) = nI b ∧ p1 = nI k ∧ (∀ n : Nat, n ≤ 40 → sz b = nI n → k < n) := by
  obtain ⟨b, hb, eb⟩ := (hd.pos h0 h1).nat
  rw [eb, cl_nI (by omega)] at h3
  obtain ⟨n, hn, en⟩ := hz b hb
  obtain ⟨k, hk, rfl⟩ := nI_of h2
  rw [en, nI_ltI hk (by omega)] at h3
  refine ⟨b, k, hb, by omega, eb, rfl, fun n' hn' en' => ?_⟩
  rw [en] at en'
  have := (nI_eq (by omega) (by omega)).mp en'
  omega
theorem in40v {v p1 : Int32} {b k : Nat} (hb : b < 6) (hk : k < 40) (e1 : v = nI b) (e2 : p1 = nI k) : vp_in (40 * v + p1) 240 := by
  rw [e1, e2]; exact in40 hb hk
def wOK (wa : Nat → Int32) : Prop := ∀ s, s < 3 → ∃ w, w ≤ 8 ∧ wa s = nI w
def mOrdAt (p0 w : Int32) : Int32 := 5 * (8 * p0 + w)
theorem mOrdAt_nat {s w : Nat} : mOrdAt (nI s) (nI w) = nI (5 * (8 * s + w)) := by
  unfold mOrdAt; rw [show (8 : Int32) = nI 8 from rfl, show (5 : Int32) = nI 5 from rfl, pk_mul, nI_add, pk_mul]
theorem inOrd {wa : Nat → Int32} (hw : wOK wa) {p0 : Int32} (h0 : isS p0) (h8 : ¬ wa (cl p0) = 8) : ∃ s w : Nat, s < 3 ∧ w < 8 ∧ p0 = nI s ∧ wa (cl p0) = nI w ∧ ∀ k, k < 5 → vp_in (mOrdAt p0 (wa (cl p0)) + nI k) 120 ∧ cl (mOrdAt p0 (wa (cl p0)) + nI k) = 5 * (8 * s + w) + k := by
  obtain ⟨s, hs, rfl⟩ := h0.nat
  obtain ⟨w, hw8, ew⟩ := hw (cl (nI s)) h0.lt
  have : w ≠ 8 := fun q => h8 (by rw [ew, q]; rfl)
  refine ⟨s, w, hs, by omega, rfl, ew, fun k hk => ?_⟩
  rw [ew, mOrdAt_nat, nI_add]
  exact ⟨vp_in_nI (by omega) (by decide), cl_nI (by omega)⟩
theorem inOrd0 {x : Int32} (h : vp_in (x + nI 0) 120) : vp_in x 120 := by rw [nI_0] at h; simpa using h
def mWt (wt : Nat → Int32) (at_ a i b j n : Int32) : Nat → Int32 := upd (upd (upd (upd (upd wt (cl at_) a) (cl (at_ + 1)) i) (cl (at_ + 2)) b) (cl (at_ + 3)) j) (cl (at_ + 4)) n
/-- the sign that write makes -/
def mSgn (s sort : Int32) (v : Int64) : Int64 := if 5 < s then (if sort = 0 then 0 else 4 * jsh v 32 + sort.toInt64) else mCut s v
def mWriteP (u : MS) (p0 p1 p2 : Int32) (v : Int64) (r : Int32) (u' : MS) : Prop := match u with
  | (d, sc, sz, sg, ik, cp, wt, wa, ch, ct, _) =>
    (¬ isD p0 ∧ r = -99 ∧ u' = (d, sc, sz, sg, ik, cp, wt, wa, ch, ct, 0)) ∨
    (isD p0 ∧ (¬ d (cl p0) < 0 ∧ 5 < sc (cl (d (cl p0))) ∧ ¬ (¬ p2 < 0 ∧ p2 ≤ 2)) ∧ r = -99 ∧ u' = (d, sc, sz, sg, ik, cp, wt, wa, ch, ct, 0)) ∨
    (isD p0 ∧ d (cl p0) < 0 ∧ r = d (cl p0) ∧ u' = (d, sc, sz, sg, ik, cp, wt, wa, ch, ct, 0)) ∨
    (isD p0 ∧ ¬ d (cl p0) < 0 ∧ (5 < sc (cl (d (cl p0))) → ¬ p2 < 0 ∧ p2 ≤ 2) ∧ ¬ (¬ p1 < 0 ∧ p1 < sz (cl (d (cl p0)))) ∧ r = -3 ∧ u' = (d, sc, sz, sg, ik, cp, wt, wa, ch, ct, 0)) ∨
    (isD p0 ∧ ¬ d (cl p0) < 0 ∧ (5 < sc (cl (d (cl p0))) → ¬ p2 < 0 ∧ p2 ≤ 2) ∧ (¬ p1 < 0 ∧ p1 < sz (cl (d (cl p0)))) ∧ (5 < sc (cl (d (cl p0))) ∧ ¬ mMay (sc (cl (d (cl p0)))) (mSgn (sc (cl (d (cl p0)))) p2 v)) ∧ r = -10 ∧ u' = (d, sc, sz, sg, ik, cp, wt, wa, ch, ct, 0)) ∨
    (isD p0 ∧ ¬ d (cl p0) < 0 ∧ (5 < sc (cl (d (cl p0))) → ¬ p2 < 0 ∧ p2 ≤ 2) ∧ (¬ p1 < 0 ∧ p1 < sz (cl (d (cl p0)))) ∧ (5 < sc (cl (d (cl p0))) → mMay (sc (cl (d (cl p0)))) (mSgn (sc (cl (d (cl p0)))) p2 v)) ∧ r = 0 ∧ u' = (d, sc, sz, vp_updL sg (cl (40 * d (cl p0) + p1)) (mSgn (sc (cl (d (cl p0)))) p2 v), ik, cp, wt, wa, ch, ct, 0))
end
section
set_option maxHeartbeats 4000000 in
set_option maxRecDepth 100000 in
theorem c_m_fill (l : Launch) (G : va_G) (Y : Nat → ClassId) (x : Nat) (ad : Nat → Nat) (d sc sz : Nat → Int32) (sg : Nat → Int64) (ik cp wt wa ch ct : Nat → Int32) (th : Int32) (p0 : Int32) (p1 : Int32)  : ctI l G Y (mW Y x ad) yX5_fill wsX5_fill ({ frames := 1, cells := 0, slots := 0, locals := 40 }) [.ref x, .int p0, .int p1] (d, sc, sz, sg, ik, cp, wt, wa, ch, ct, th) (fun r u' => ((isS p0 ∧ ¬ p1 < 0 ∧ p1 ≤ 1000) ∧ r = mFil (ik (cl p0) + p1) ∧ u' = (d, sc, sz, sg, upd ik (cl p0) (mFil (ik (cl p0) + p1)), cp, wt, wa, ch, ct, 0)) ∨ (¬ (isS p0 ∧ ¬ p1 < 0 ∧ p1 ≤ 1000) ∧ r = -99 ∧ u' = (d, sc, sz, sg, ik, cp, wt, wa, ch, ct, 0))) := by
  refine ctI.of (cc := cX5_fill) (maxL := 3) (ret := (some .int)) (by decide) rfl (Nat.le_of_ble_eq_true rfl) ?_
  intro A p e s m below meth c ls hB
  obtain ⟨F, hr, hlocks, hnm, hK, hA, hw, hl⟩ := hB
  obtain ⟨hx, hb, hml, hown, hts⟩ := id F
  have hl : lv_has ls 3 [(0, .ref x), (1, .int p0), (2, .int p1)] := hl
  have hi : ∀ w ∈ wsX50, w ∈ wsX5_fill := by decide +kernel
  have hl23 : Cond.fieldLink RX5 23 "ScriptoriumModel" "ink" "[I" ∈ wsX5_fill := by decide +kernel
  have hl41 : Cond.fieldLink RX5 41 "ScriptoriumModel" "thrown" "I" ∈ wsX5_fill := by decide +kernel
  refine lv_aload_n hx hb dX5_fill_0 rfl (lv_at hl 0 rfl) ?_
  refine lv_iconst (v := 0) hx hb dX5_fill_1 (by decide) ?_
  refine m_put10 F hi hl41 hK hw dX5_fill_2 (fun H locs hw => ?_)
  refine lv_iload_n hx hb dX5_fill_5 rfl (lv_at hl 1 rfl) ?_
  refine (c_m_isScribe l G Y x ad _ _ _ _ _ _ _ _ _ _ _ _).callS F (va_cwS 1 hts gX5_fill_X5_isScribe rfl rfl rfl (by decide +kernel) ⟨Nat.le_of_ble_eq_true rfl, Nat.le_of_ble_eq_true rfl⟩) hK hw hA rfl rfl hl.1 (Nat.le_of_ble_eq_true rfl) dX5_fill_6 ⟨Nat.le_of_ble_eq_true rfl, Nat.le_of_ble_eq_true rfl⟩ (fun r_6 u_6 H locs hp_6 hw => ?_)
  obtain ⟨rfl, ⟨hq_6, rfl⟩ | ⟨hq_6, rfl⟩⟩ := hp_6
  · skip
    refine lv_if_eq (tgt := 23) hx hb dX5_fill_9 (by decide) (fun c_9 => ?_) (fun c_9 => ?_)
    · exact absurd c_9 (by decide)
    · skip
      refine lv_iload_n hx hb dX5_fill_12 rfl (lv_at hl 2 rfl) ?_
      refine lv_if_lt (tgt := 23) hx hb dX5_fill_13 (by decide) (fun c_13 => ?_) (fun c_13 => ?_)
      · skip
        refine lv_bipush (v := -99) hx hb dX5_fill_23 (by decide) ?_
        exact ct_iret hx hb hr (vp_nar_int _) hlocks hK hw dX5_fill_25 (Nat.le_of_ble_eq_true rfl) (Nat.le_of_ble_eq_true rfl) (Or.inr ⟨fun h => h.2.1 c_13, rfl, rfl⟩)
      · skip
        refine lv_iload_n hx hb dX5_fill_16 rfl (lv_at hl 2 rfl) ?_
        refine lv_sipush (v := 1000) hx hb dX5_fill_17 (by decide) ?_
        refine lv_icmp_le (tgt := 26) hx hb dX5_fill_20 (by decide) (fun c_20 => ?_) (fun c_20 => ?_)
        · skip
          refine lv_aload_n hx hb dX5_fill_26 rfl (lv_at hl 0 rfl) ?_
          refine m_get4 F hi hl23 hK hw dX5_fill_27 ?_
          refine lv_iload_n hx hb dX5_fill_30 rfl (lv_at hl 1 rfl) ?_
          refine lv_aload_n hx hb dX5_fill_31 rfl (lv_at hl 0 rfl) ?_
          refine m_get4 F hi hl23 hK hw dX5_fill_32 ?_
          refine lv_iload_n hx hb dX5_fill_35 rfl (lv_at hl 1 rfl) ?_
          refine m_ld4 F hK hw hq_6.in dX5_fill_36 ?_
          refine lv_iload_n hx hb dX5_fill_37 rfl (lv_at hl 2 rfl) ?_
          refine lv_iadd hx hb dX5_fill_38 ?_
          refine lv_sipush (v := 1000) hx hb dX5_fill_39 (by decide) ?_
          refine lv_icmp_le (tgt := 51) hx hb dX5_fill_42 (by decide) (fun c_42 => ?_) (fun c_42 => ?_)
          · skip
            refine lv_aload_n hx hb dX5_fill_51 rfl (lv_at hl 0 rfl) ?_
            refine m_get4 F hi hl23 hK hw dX5_fill_52 ?_
            refine lv_iload_n hx hb dX5_fill_55 rfl (lv_at hl 1 rfl) ?_
            refine m_ld4 F hK hw hq_6.in dX5_fill_56 ?_
            refine lv_iload_n hx hb dX5_fill_57 rfl (lv_at hl 2 rfl) ?_
            refine lv_iadd hx hb dX5_fill_58 ?_
            refine m_st4 F hK hw hq_6.in dX5_fill_59 (fun H locs hw => ?_)
            refine lv_aload_n hx hb dX5_fill_60 rfl (lv_at hl 0 rfl) ?_
            refine m_get4 F hi hl23 hK hw dX5_fill_61 ?_
            refine lv_iload_n hx hb dX5_fill_64 rfl (lv_at hl 1 rfl) ?_
            refine m_ld4 F hK hw hq_6.in dX5_fill_65 ?_
            exact ct_iret hx hb hr (vp_nar_int _) hlocks hK hw dX5_fill_66 (Nat.le_of_ble_eq_true rfl) (Nat.le_of_ble_eq_true rfl) (Or.inl ⟨⟨hq_6, c_13, c_20⟩, by unfold mFil; rw [if_pos c_42, pk_us], by unfold mFil; rw [if_pos c_42]⟩)
          · skip
            refine lv_sipush (v := 1000) hx hb dX5_fill_45 (by decide) ?_
            refine lv_goto (tgt := 59) hx hb dX5_fill_48 (by decide) ?_
            refine m_st4 F hK hw hq_6.in dX5_fill_59 (fun H locs hw => ?_)
            refine lv_aload_n hx hb dX5_fill_60 rfl (lv_at hl 0 rfl) ?_
            refine m_get4 F hi hl23 hK hw dX5_fill_61 ?_
            refine lv_iload_n hx hb dX5_fill_64 rfl (lv_at hl 1 rfl) ?_
            refine m_ld4 F hK hw hq_6.in dX5_fill_65 ?_
            exact ct_iret hx hb hr (vp_nar_int _) hlocks hK hw dX5_fill_66 (Nat.le_of_ble_eq_true rfl) (Nat.le_of_ble_eq_true rfl) (Or.inl ⟨⟨hq_6, c_13, c_20⟩, by unfold mFil; rw [if_neg c_42, pk_us], by unfold mFil; rw [if_neg c_42]⟩)
        · skip
          refine lv_bipush (v := -99) hx hb dX5_fill_23 (by decide) ?_
          exact ct_iret hx hb hr (vp_nar_int _) hlocks hK hw dX5_fill_25 (Nat.le_of_ble_eq_true rfl) (Nat.le_of_ble_eq_true rfl) (Or.inr ⟨fun h => c_20 h.2.2, rfl, rfl⟩)
  · skip
    refine lv_if_eq (tgt := 23) hx hb dX5_fill_9 (by decide) (fun c_9 => ?_) (fun c_9 => ?_)
    · skip
      refine lv_bipush (v := -99) hx hb dX5_fill_23 (by decide) ?_
      exact ct_iret hx hb hr (vp_nar_int _) hlocks hK hw dX5_fill_25 (Nat.le_of_ble_eq_true rfl) (Nat.le_of_ble_eq_true rfl) (Or.inr ⟨fun h => hq_6 h.1, rfl, rfl⟩)
    · exact absurd rfl c_9

set_option maxHeartbeats 4000000 in
set_option maxRecDepth 100000 in
theorem c_m_scribe (l : Launch) (G : va_G) (Y : Nat → ClassId) (x : Nat) (ad : Nat → Nat) (d sc sz : Nat → Int32) (sg : Nat → Int64) (ik cp wt wa ch ct : Nat → Int32) (th : Int32) (p0 : Int32) (p1 : Int32)  : ctI l G Y (mW Y x ad) yX5_scribe wsX5_scribe ({ frames := 1, cells := 0, slots := 0, locals := 40 }) [.ref x, .int p0, .int p1] (d, sc, sz, sg, ik, cp, wt, wa, ch, ct, th) (fun r u' => ((isS p0 ∧ ¬ p1 < 0 ∧ p1 ≤ 2) ∧ r = (if p1 = 0 then ik (cl p0) else if p1 = 1 then wa (cl p0) else cp (cl p0)) ∧ u' = (d, sc, sz, sg, ik, cp, wt, wa, ch, ct, 0)) ∨ (¬ (isS p0 ∧ ¬ p1 < 0 ∧ p1 ≤ 2) ∧ r = -99 ∧ u' = (d, sc, sz, sg, ik, cp, wt, wa, ch, ct, 0))) := by
  refine ctI.of (cc := cX5_scribe) (maxL := 3) (ret := (some .int)) (by decide) rfl (Nat.le_of_ble_eq_true rfl) ?_
  intro A p e s m below meth c ls hB
  obtain ⟨F, hr, hlocks, hnm, hK, hA, hw, hl⟩ := hB
  obtain ⟨hx, hb, hml, hown, hts⟩ := id F
  have hl : lv_has ls 3 [(0, .ref x), (1, .int p0), (2, .int p1)] := hl
  have hi : ∀ w ∈ wsX50, w ∈ wsX5_scribe := by decide +kernel
  have hl23 : Cond.fieldLink RX5 23 "ScriptoriumModel" "ink" "[I" ∈ wsX5_scribe := by decide +kernel
  have hl26 : Cond.fieldLink RX5 26 "ScriptoriumModel" "copied" "[I" ∈ wsX5_scribe := by decide +kernel
  have hl32 : Cond.fieldLink RX5 32 "ScriptoriumModel" "waits" "[I" ∈ wsX5_scribe := by decide +kernel
  have hl41 : Cond.fieldLink RX5 41 "ScriptoriumModel" "thrown" "I" ∈ wsX5_scribe := by decide +kernel
  refine lv_aload_n hx hb dX5_scribe_0 rfl (lv_at hl 0 rfl) ?_
  refine lv_iconst (v := 0) hx hb dX5_scribe_1 (by decide) ?_
  refine m_put10 F hi hl41 hK hw dX5_scribe_2 (fun H locs hw => ?_)
  refine lv_iload_n hx hb dX5_scribe_5 rfl (lv_at hl 1 rfl) ?_
  refine (c_m_isScribe l G Y x ad _ _ _ _ _ _ _ _ _ _ _ _).callS F (va_cwS 1 hts gX5_scribe_X5_isScribe rfl rfl rfl (by decide +kernel) ⟨Nat.le_of_ble_eq_true rfl, Nat.le_of_ble_eq_true rfl⟩) hK hw hA rfl rfl hl.1 (Nat.le_of_ble_eq_true rfl) dX5_scribe_6 ⟨Nat.le_of_ble_eq_true rfl, Nat.le_of_ble_eq_true rfl⟩ (fun r_6 u_6 H locs hp_6 hw => ?_)
  obtain ⟨rfl, ⟨hq_6, rfl⟩ | ⟨hq_6, rfl⟩⟩ := hp_6
  · skip
    refine lv_if_eq (tgt := 21) hx hb dX5_scribe_9 (by decide) (fun c_9 => ?_) (fun c_9 => ?_)
    · exact absurd c_9 (by decide)
    · skip
      refine lv_iload_n hx hb dX5_scribe_12 rfl (lv_at hl 2 rfl) ?_
      refine lv_if_lt (tgt := 21) hx hb dX5_scribe_13 (by decide) (fun c_13 => ?_) (fun c_13 => ?_)
      · skip
        refine lv_bipush (v := -99) hx hb dX5_scribe_21 (by decide) ?_
        exact ct_iret hx hb hr (vp_nar_int _) hlocks hK hw dX5_scribe_23 (Nat.le_of_ble_eq_true rfl) (Nat.le_of_ble_eq_true rfl) (Or.inr ⟨fun h => h.2.1 c_13, rfl, rfl⟩)
      · skip
        refine lv_iload_n hx hb dX5_scribe_16 rfl (lv_at hl 2 rfl) ?_
        refine lv_iconst (v := 2) hx hb dX5_scribe_17 (by decide) ?_
        refine lv_icmp_le (tgt := 24) hx hb dX5_scribe_18 (by decide) (fun c_18 => ?_) (fun c_18 => ?_)
        · skip
          refine lv_iload_n hx hb dX5_scribe_24 rfl (lv_at hl 2 rfl) ?_
          refine lv_if_ne (tgt := 37) hx hb dX5_scribe_25 (by decide) (fun c_25 => ?_) (fun c_25 => ?_)
          · skip
            refine lv_iload_n hx hb dX5_scribe_37 rfl (lv_at hl 2 rfl) ?_
            refine lv_iconst (v := 1) hx hb dX5_scribe_38 (by decide) ?_
            refine lv_icmp_ne (tgt := 51) hx hb dX5_scribe_39 (by decide) (fun c_39 => ?_) (fun c_39 => ?_)
            · skip
              refine lv_aload_n hx hb dX5_scribe_51 rfl (lv_at hl 0 rfl) ?_
              refine m_get5 F hi hl26 hK hw dX5_scribe_52 ?_
              refine lv_iload_n hx hb dX5_scribe_55 rfl (lv_at hl 1 rfl) ?_
              refine m_ld5 F hK hw hq_6.in dX5_scribe_56 ?_
              exact ct_iret hx hb hr (vp_nar_int _) hlocks hK hw dX5_scribe_57 (Nat.le_of_ble_eq_true rfl) (Nat.le_of_ble_eq_true rfl) (Or.inl ⟨⟨hq_6, c_13, c_18⟩, by rw [if_neg c_25, if_neg c_39], rfl⟩)
            · skip
              refine lv_aload_n hx hb dX5_scribe_42 rfl (lv_at hl 0 rfl) ?_
              refine m_get7 F hi hl32 hK hw dX5_scribe_43 ?_
              refine lv_iload_n hx hb dX5_scribe_46 rfl (lv_at hl 1 rfl) ?_
              refine m_ld7 F hK hw hq_6.in dX5_scribe_47 ?_
              refine lv_goto (tgt := 57) hx hb dX5_scribe_48 (by decide) ?_
              exact ct_iret hx hb hr (vp_nar_int _) hlocks hK hw dX5_scribe_57 (Nat.le_of_ble_eq_true rfl) (Nat.le_of_ble_eq_true rfl) (Or.inl ⟨⟨hq_6, c_13, c_18⟩, by rw [if_neg c_25, if_pos c_39], rfl⟩)
          · skip
            refine lv_aload_n hx hb dX5_scribe_28 rfl (lv_at hl 0 rfl) ?_
            refine m_get4 F hi hl23 hK hw dX5_scribe_29 ?_
            refine lv_iload_n hx hb dX5_scribe_32 rfl (lv_at hl 1 rfl) ?_
            refine m_ld4 F hK hw hq_6.in dX5_scribe_33 ?_
            refine lv_goto (tgt := 57) hx hb dX5_scribe_34 (by decide) ?_
            exact ct_iret hx hb hr (vp_nar_int _) hlocks hK hw dX5_scribe_57 (Nat.le_of_ble_eq_true rfl) (Nat.le_of_ble_eq_true rfl) (Or.inl ⟨⟨hq_6, c_13, c_18⟩, by rw [if_pos c_25], rfl⟩)
        · skip
          refine lv_bipush (v := -99) hx hb dX5_scribe_21 (by decide) ?_
          exact ct_iret hx hb hr (vp_nar_int _) hlocks hK hw dX5_scribe_23 (Nat.le_of_ble_eq_true rfl) (Nat.le_of_ble_eq_true rfl) (Or.inr ⟨fun h => c_18 h.2.2, rfl, rfl⟩)
  · skip
    refine lv_if_eq (tgt := 21) hx hb dX5_scribe_9 (by decide) (fun c_9 => ?_) (fun c_9 => ?_)
    · skip
      refine lv_bipush (v := -99) hx hb dX5_scribe_21 (by decide) ?_
      exact ct_iret hx hb hr (vp_nar_int _) hlocks hK hw dX5_scribe_23 (Nat.le_of_ble_eq_true rfl) (Nat.le_of_ble_eq_true rfl) (Or.inr ⟨fun h => hq_6 h.1, rfl, rfl⟩)
    · exact absurd rfl c_9

set_option maxHeartbeats 4000000 in
set_option maxRecDepth 100000 in
theorem c_m_count (l : Launch) (G : va_G) (Y : Nat → ClassId) (x : Nat) (ad : Nat → Nat) (d sc sz : Nat → Int32) (sg : Nat → Int64) (ik cp wt wa ch ct : Nat → Int32) (th : Int32) (p0 : Int32)  : ctI l G Y (mW Y x ad) yX5_count wsX5_count ({ frames := 0, cells := 0, slots := 0, locals := 0 }) [.ref x, .int p0] (d, sc, sz, sg, ik, cp, wt, wa, ch, ct, th) (fun r u' => ((¬ p0 < 0 ∧ p0 ≤ 7) ∧ r = ct (cl p0) ∧ u' = (d, sc, sz, sg, ik, cp, wt, wa, ch, ct, 0)) ∨ (¬ (¬ p0 < 0 ∧ p0 ≤ 7) ∧ r = -99 ∧ u' = (d, sc, sz, sg, ik, cp, wt, wa, ch, ct, 0))) := by
  refine ctI.of (cc := cX5_count) (maxL := 2) (ret := (some .int)) (by decide) rfl (Nat.le_of_ble_eq_true rfl) ?_
  intro A p e s m below meth c ls hB
  obtain ⟨F, hr, hlocks, hnm, hK, hA, hw, hl⟩ := hB
  obtain ⟨hx, hb, hml, hown, hts⟩ := id F
  have hl : lv_has ls 2 [(0, .ref x), (1, .int p0)] := hl
  have hi : ∀ w ∈ wsX50, w ∈ wsX5_count := by decide +kernel
  have hl38 : Cond.fieldLink RX5 38 "ScriptoriumModel" "counts" "[I" ∈ wsX5_count := by decide +kernel
  have hl41 : Cond.fieldLink RX5 41 "ScriptoriumModel" "thrown" "I" ∈ wsX5_count := by decide +kernel
  refine lv_aload_n hx hb dX5_count_0 rfl (lv_at hl 0 rfl) ?_
  refine lv_iconst (v := 0) hx hb dX5_count_1 (by decide) ?_
  refine m_put10 F hi hl41 hK hw dX5_count_2 (fun H locs hw => ?_)
  refine lv_iload_n hx hb dX5_count_5 rfl (lv_at hl 1 rfl) ?_
  refine lv_if_lt (tgt := 15) hx hb dX5_count_6 (by decide) (fun c_6 => ?_) (fun c_6 => ?_)
  · skip
    refine lv_bipush (v := -99) hx hb dX5_count_15 (by decide) ?_
    refine lv_goto (tgt := 26) hx hb dX5_count_17 (by decide) ?_
    exact ct_iret hx hb hr (vp_nar_int _) hlocks hK hw dX5_count_26 (Nat.le_of_ble_eq_true rfl) (Nat.le_of_ble_eq_true rfl) (Or.inr ⟨fun h => h.1 c_6, rfl, rfl⟩)
  · skip
    refine lv_iload_n hx hb dX5_count_9 rfl (lv_at hl 1 rfl) ?_
    refine lv_bipush (v := 7) hx hb dX5_count_10 (by decide) ?_
    refine lv_icmp_le (tgt := 20) hx hb dX5_count_12 (by decide) (fun c_12 => ?_) (fun c_12 => ?_)
    · skip
      refine lv_aload_n hx hb dX5_count_20 rfl (lv_at hl 0 rfl) ?_
      refine m_get9 F hi hl38 hK hw dX5_count_21 ?_
      refine lv_iload_n hx hb dX5_count_24 rfl (lv_at hl 1 rfl) ?_
      refine m_ld9 F hK hw (in_le (M := 7) rfl c_6 c_12) dX5_count_25 ?_
      exact ct_iret hx hb hr (vp_nar_int _) hlocks hK hw dX5_count_26 (Nat.le_of_ble_eq_true rfl) (Nat.le_of_ble_eq_true rfl) (Or.inl ⟨⟨c_6, c_12⟩, rfl, rfl⟩)
    · skip
      refine lv_bipush (v := -99) hx hb dX5_count_15 (by decide) ?_
      refine lv_goto (tgt := 26) hx hb dX5_count_17 (by decide) ?_
      exact ct_iret hx hb hr (vp_nar_int _) hlocks hK hw dX5_count_26 (Nat.le_of_ble_eq_true rfl) (Nat.le_of_ble_eq_true rfl) (Or.inr ⟨fun h => c_12 h.2, rfl, rfl⟩)

set_option maxHeartbeats 4000000 in
set_option maxRecDepth 100000 in
theorem c_m_chronicle (l : Launch) (G : va_G) (Y : Nat → ClassId) (x : Nat) (ad : Nat → Nat) (d sc sz : Nat → Int32) (sg : Nat → Int64) (ik cp wt wa ch ct : Nat → Int32) (th : Int32) (p0 : Int32) (p1 : Int32) (c0 : Nat) (hc0 : c0OK ct c0) : ctI l G Y (mW Y x ad) yX5_chronicle wsX5_chronicle ({ frames := 0, cells := 0, slots := 0, locals := 0 }) [.ref x, .int p0, .int p1] (d, sc, sz, sg, ik, cp, wt, wa, ch, ct, th) (fun r u' => ((¬ p0 < 0 ∧ ¬ 16 ≤ p0 ∧ ¬ ct 0 ≤ p0 ∧ ¬ p1 < 0 ∧ p1 ≤ 3) ∧ r = ch (cl (4 * mRow ct p0 + p1)) ∧ u' = (d, sc, sz, sg, ik, cp, wt, wa, ch, ct, 0)) ∨ (¬ (¬ p0 < 0 ∧ ¬ 16 ≤ p0 ∧ ¬ ct 0 ≤ p0 ∧ ¬ p1 < 0 ∧ p1 ≤ 3) ∧ r = -99 ∧ u' = (d, sc, sz, sg, ik, cp, wt, wa, ch, ct, 0))) := by
  refine ctI.of (cc := cX5_chronicle) (maxL := 3) (ret := (some .int)) (by decide) rfl (Nat.le_of_ble_eq_true rfl) ?_
  intro A p e s m below meth c ls hB
  obtain ⟨F, hr, hlocks, hnm, hK, hA, hw, hl⟩ := hB
  obtain ⟨hx, hb, hml, hown, hts⟩ := id F
  have hl : lv_has ls 3 [(0, .ref x), (1, .int p0), (2, .int p1)] := hl
  have hi : ∀ w ∈ wsX50, w ∈ wsX5_chronicle := by decide +kernel
  have hl35 : Cond.fieldLink RX5 35 "ScriptoriumModel" "chronicle" "[I" ∈ wsX5_chronicle := by decide +kernel
  have hl38 : Cond.fieldLink RX5 38 "ScriptoriumModel" "counts" "[I" ∈ wsX5_chronicle := by decide +kernel
  have hl41 : Cond.fieldLink RX5 41 "ScriptoriumModel" "thrown" "I" ∈ wsX5_chronicle := by decide +kernel
  refine lv_aload_n hx hb dX5_chronicle_0 rfl (lv_at hl 0 rfl) ?_
  refine lv_iconst (v := 0) hx hb dX5_chronicle_1 (by decide) ?_
  refine m_put10 F hi hl41 hK hw dX5_chronicle_2 (fun H locs hw => ?_)
  refine lv_iload_n hx hb dX5_chronicle_5 rfl (lv_at hl 1 rfl) ?_
  refine lv_if_lt (tgt := 34) hx hb dX5_chronicle_6 (by decide) (fun c_6 => ?_) (fun c_6 => ?_)
  · skip
    refine lv_bipush (v := -99) hx hb dX5_chronicle_34 (by decide) ?_
    exact ct_iret hx hb hr (vp_nar_int _) hlocks hK hw dX5_chronicle_36 (Nat.le_of_ble_eq_true rfl) (Nat.le_of_ble_eq_true rfl) (Or.inr ⟨fun h => h.1 c_6, rfl, rfl⟩)
  · skip
    refine lv_iload_n hx hb dX5_chronicle_9 rfl (lv_at hl 1 rfl) ?_
    refine lv_bipush (v := 16) hx hb dX5_chronicle_10 (by decide) ?_
    refine lv_icmp_ge (tgt := 34) hx hb dX5_chronicle_12 (by decide) (fun c_12 => ?_) (fun c_12 => ?_)
    · skip
      refine lv_bipush (v := -99) hx hb dX5_chronicle_34 (by decide) ?_
      exact ct_iret hx hb hr (vp_nar_int _) hlocks hK hw dX5_chronicle_36 (Nat.le_of_ble_eq_true rfl) (Nat.le_of_ble_eq_true rfl) (Or.inr ⟨fun h => h.2.1 c_12, rfl, rfl⟩)
    · skip
      refine lv_iload_n hx hb dX5_chronicle_15 rfl (lv_at hl 1 rfl) ?_
      refine lv_aload_n hx hb dX5_chronicle_16 rfl (lv_at hl 0 rfl) ?_
      refine m_get9 F hi hl38 hK hw dX5_chronicle_17 ?_
      refine lv_iconst (v := 0) hx hb dX5_chronicle_20 (by decide) ?_
      refine m_ld9 F hK hw (vp_in_nI (n := 0) (by decide) (by decide)) dX5_chronicle_21 ?_
      refine lv_icmp_ge (tgt := 34) hx hb dX5_chronicle_22 (by decide) (fun c_22 => ?_) (fun c_22 => ?_)
      · skip
        refine lv_bipush (v := -99) hx hb dX5_chronicle_34 (by decide) ?_
        exact ct_iret hx hb hr (vp_nar_int _) hlocks hK hw dX5_chronicle_36 (Nat.le_of_ble_eq_true rfl) (Nat.le_of_ble_eq_true rfl) (Or.inr ⟨fun h => h.2.2.1 c_22, rfl, rfl⟩)
      · skip
        refine lv_iload_n hx hb dX5_chronicle_25 rfl (lv_at hl 2 rfl) ?_
        refine lv_if_lt (tgt := 34) hx hb dX5_chronicle_26 (by decide) (fun c_26 => ?_) (fun c_26 => ?_)
        · skip
          refine lv_bipush (v := -99) hx hb dX5_chronicle_34 (by decide) ?_
          exact ct_iret hx hb hr (vp_nar_int _) hlocks hK hw dX5_chronicle_36 (Nat.le_of_ble_eq_true rfl) (Nat.le_of_ble_eq_true rfl) (Or.inr ⟨fun h => h.2.2.2.1 c_26, rfl, rfl⟩)
        · skip
          refine lv_iload_n hx hb dX5_chronicle_29 rfl (lv_at hl 2 rfl) ?_
          refine lv_iconst (v := 3) hx hb dX5_chronicle_30 (by decide) ?_
          refine lv_icmp_le (tgt := 37) hx hb dX5_chronicle_31 (by decide) (fun c_31 => ?_) (fun c_31 => ?_)
          · skip
            refine lv_aload_n hx hb dX5_chronicle_37 rfl (lv_at hl 0 rfl) ?_
            refine m_get8 F hi hl35 hK hw dX5_chronicle_38 ?_
            refine lv_iconst (v := 4) hx hb dX5_chronicle_41 (by decide) ?_
            refine lv_aload_n hx hb dX5_chronicle_42 rfl (lv_at hl 0 rfl) ?_
            refine m_get9 F hi hl38 hK hw dX5_chronicle_43 ?_
            refine lv_iconst (v := 0) hx hb dX5_chronicle_46 (by decide) ?_
            refine m_ld9 F hK hw (vp_in_nI (n := 0) (by decide) (by decide)) dX5_chronicle_47 ?_
            refine lv_iconst (v := 1) hx hb dX5_chronicle_48 (by decide) ?_
            refine lv_isub hx hb dX5_chronicle_49 ?_
            refine lv_iload_n hx hb dX5_chronicle_50 rfl (lv_at hl 1 rfl) ?_
            refine lv_isub hx hb dX5_chronicle_51 ?_
            refine lv_bipush (v := 16) hx hb dX5_chronicle_52 (by decide) ?_
            refine lv_irem hx hb dX5_chronicle_54 (by decide) ?_
            refine lv_imul hx hb dX5_chronicle_55 ?_
            refine lv_iload_n hx hb dX5_chronicle_56 rfl (lv_at hl 2 rfl) ?_
            refine lv_iadd hx hb dX5_chronicle_57 ?_
            refine m_ld8 F hK hw (inRow hc0 c_6 c_22 c_26 c_31) dX5_chronicle_58 ?_
            exact ct_iret hx hb hr (vp_nar_int _) hlocks hK hw dX5_chronicle_59 (Nat.le_of_ble_eq_true rfl) (Nat.le_of_ble_eq_true rfl) (Or.inl ⟨⟨c_6, c_12, c_22, c_26, c_31⟩, rfl, rfl⟩)
          · skip
            refine lv_bipush (v := -99) hx hb dX5_chronicle_34 (by decide) ?_
            exact ct_iret hx hb hr (vp_nar_int _) hlocks hK hw dX5_chronicle_36 (Nat.le_of_ble_eq_true rfl) (Nat.le_of_ble_eq_true rfl) (Or.inr ⟨fun h => c_31 h.2.2.2.2, rfl, rfl⟩)

set_option maxHeartbeats 4000000 in
set_option maxRecDepth 100000 in
theorem c_m_book (l : Launch) (G : va_G) (Y : Nat → ClassId) (x : Nat) (ad : Nat → Nat) (d sc sz : Nat → Int32) (sg : Nat → Int64) (ik cp wt wa ch ct : Nat → Int32) (th : Int32) (p0 : Int32) (p1 : Int32) (hd : dOK d) : ctI l G Y (mW Y x ad) yX5_book wsX5_book ({ frames := 1, cells := 0, slots := 0, locals := 40 }) [.ref x, .int p0, .int p1] (d, sc, sz, sg, ik, cp, wt, wa, ch, ct, th) (fun r u' => ((isD p0 ∧ ¬ p1 < 0 ∧ p1 ≤ 1) ∧ r = (if 0 ≤ d (cl p0) then (if p1 = 0 then sc (cl (d (cl p0))) else sz (cl (d (cl p0)))) else d (cl p0)) ∧ u' = (d, sc, sz, sg, ik, cp, wt, wa, ch, ct, 0)) ∨ (¬ (isD p0 ∧ ¬ p1 < 0 ∧ p1 ≤ 1) ∧ r = -99 ∧ u' = (d, sc, sz, sg, ik, cp, wt, wa, ch, ct, 0))) := by
  refine ctI.of (cc := cX5_book) (maxL := 3) (ret := (some .int)) (by decide) rfl (Nat.le_of_ble_eq_true rfl) ?_
  intro A p e s m below meth c ls hB
  obtain ⟨F, hr, hlocks, hnm, hK, hA, hw, hl⟩ := hB
  obtain ⟨hx, hb, hml, hown, hts⟩ := id F
  have hl : lv_has ls 3 [(0, .ref x), (1, .int p0), (2, .int p1)] := hl
  have hi : ∀ w ∈ wsX50, w ∈ wsX5_book := by decide +kernel
  have hl7 : Cond.fieldLink RX5 7 "ScriptoriumModel" "desk" "[I" ∈ wsX5_book := by decide +kernel
  have hl13 : Cond.fieldLink RX5 13 "ScriptoriumModel" "script" "[I" ∈ wsX5_book := by decide +kernel
  have hl16 : Cond.fieldLink RX5 16 "ScriptoriumModel" "size" "[I" ∈ wsX5_book := by decide +kernel
  have hl41 : Cond.fieldLink RX5 41 "ScriptoriumModel" "thrown" "I" ∈ wsX5_book := by decide +kernel
  refine lv_aload_n hx hb dX5_book_0 rfl (lv_at hl 0 rfl) ?_
  refine lv_iconst (v := 0) hx hb dX5_book_1 (by decide) ?_
  refine m_put10 F hi hl41 hK hw dX5_book_2 (fun H locs hw => ?_)
  refine lv_iload_n hx hb dX5_book_5 rfl (lv_at hl 1 rfl) ?_
  refine (c_m_isDesk l G Y x ad _ _ _ _ _ _ _ _ _ _ _ _).callS F (va_cwS 1 hts gX5_book_X5_isDesk rfl rfl rfl (by decide +kernel) ⟨Nat.le_of_ble_eq_true rfl, Nat.le_of_ble_eq_true rfl⟩) hK hw hA rfl rfl hl.1 (Nat.le_of_ble_eq_true rfl) dX5_book_6 ⟨Nat.le_of_ble_eq_true rfl, Nat.le_of_ble_eq_true rfl⟩ (fun r_6 u_6 H locs hp_6 hw => ?_)
  obtain ⟨rfl, ⟨hq_6, rfl⟩ | ⟨hq_6, rfl⟩⟩ := hp_6
  · skip
    refine lv_if_eq (tgt := 21) hx hb dX5_book_9 (by decide) (fun c_9 => ?_) (fun c_9 => ?_)
    · exact absurd c_9 (by decide)
    · skip
      refine lv_iload_n hx hb dX5_book_12 rfl (lv_at hl 2 rfl) ?_
      refine lv_if_lt (tgt := 21) hx hb dX5_book_13 (by decide) (fun c_13 => ?_) (fun c_13 => ?_)
      · skip
        refine lv_bipush (v := -99) hx hb dX5_book_21 (by decide) ?_
        exact ct_iret hx hb hr (vp_nar_int _) hlocks hK hw dX5_book_23 (Nat.le_of_ble_eq_true rfl) (Nat.le_of_ble_eq_true rfl) (Or.inr ⟨fun h => h.2.1 c_13, rfl, rfl⟩)
      · skip
        refine lv_iload_n hx hb dX5_book_16 rfl (lv_at hl 2 rfl) ?_
        refine lv_iconst (v := 1) hx hb dX5_book_17 (by decide) ?_
        refine lv_icmp_le (tgt := 24) hx hb dX5_book_18 (by decide) (fun c_18 => ?_) (fun c_18 => ?_)
        · skip
          refine lv_aload_n hx hb dX5_book_24 rfl (lv_at hl 0 rfl) ?_
          refine m_get0 F hi hl7 hK hw dX5_book_25 ?_
          refine lv_iload_n hx hb dX5_book_28 rfl (lv_at hl 1 rfl) ?_
          refine m_ld0 F hK hw hq_6.in dX5_book_29 ?_
          refine lv_if_ge (tgt := 42) hx hb dX5_book_30 (by decide) (fun c_30 => ?_) (fun c_30 => ?_)
          · skip
            refine lv_iload_n hx hb dX5_book_42 rfl (lv_at hl 2 rfl) ?_
            refine lv_if_ne (tgt := 60) hx hb dX5_book_43 (by decide) (fun c_43 => ?_) (fun c_43 => ?_)
            · skip
              refine lv_aload_n hx hb dX5_book_60 rfl (lv_at hl 0 rfl) ?_
              refine m_get2 F hi hl16 hK hw dX5_book_61 ?_
              refine lv_aload_n hx hb dX5_book_64 rfl (lv_at hl 0 rfl) ?_
              refine m_get0 F hi hl7 hK hw dX5_book_65 ?_
              refine lv_iload_n hx hb dX5_book_68 rfl (lv_at hl 1 rfl) ?_
              refine m_ld0 F hK hw hq_6.in dX5_book_69 ?_
              refine m_ld2 F hK hw (hd.pos hq_6 (Int32.not_lt.mpr c_30)).in dX5_book_70 ?_
              exact ct_iret hx hb hr (vp_nar_int _) hlocks hK hw dX5_book_71 (Nat.le_of_ble_eq_true rfl) (Nat.le_of_ble_eq_true rfl) (Or.inl ⟨⟨hq_6, c_13, c_18⟩, by rw [if_pos c_30, if_neg c_43], rfl⟩)
            · skip
              refine lv_aload_n hx hb dX5_book_46 rfl (lv_at hl 0 rfl) ?_
              refine m_get1 F hi hl13 hK hw dX5_book_47 ?_
              refine lv_aload_n hx hb dX5_book_50 rfl (lv_at hl 0 rfl) ?_
              refine m_get0 F hi hl7 hK hw dX5_book_51 ?_
              refine lv_iload_n hx hb dX5_book_54 rfl (lv_at hl 1 rfl) ?_
              refine m_ld0 F hK hw hq_6.in dX5_book_55 ?_
              refine m_ld1 F hK hw (hd.pos hq_6 (Int32.not_lt.mpr c_30)).in dX5_book_56 ?_
              refine lv_goto (tgt := 71) hx hb dX5_book_57 (by decide) ?_
              exact ct_iret hx hb hr (vp_nar_int _) hlocks hK hw dX5_book_71 (Nat.le_of_ble_eq_true rfl) (Nat.le_of_ble_eq_true rfl) (Or.inl ⟨⟨hq_6, c_13, c_18⟩, by rw [if_pos c_30, if_pos c_43], rfl⟩)
          · skip
            refine lv_aload_n hx hb dX5_book_33 rfl (lv_at hl 0 rfl) ?_
            refine m_get0 F hi hl7 hK hw dX5_book_34 ?_
            refine lv_iload_n hx hb dX5_book_37 rfl (lv_at hl 1 rfl) ?_
            refine m_ld0 F hK hw hq_6.in dX5_book_38 ?_
            refine lv_goto (tgt := 71) hx hb dX5_book_39 (by decide) ?_
            exact ct_iret hx hb hr (vp_nar_int _) hlocks hK hw dX5_book_71 (Nat.le_of_ble_eq_true rfl) (Nat.le_of_ble_eq_true rfl) (Or.inl ⟨⟨hq_6, c_13, c_18⟩, by rw [if_neg c_30], rfl⟩)
        · skip
          refine lv_bipush (v := -99) hx hb dX5_book_21 (by decide) ?_
          exact ct_iret hx hb hr (vp_nar_int _) hlocks hK hw dX5_book_23 (Nat.le_of_ble_eq_true rfl) (Nat.le_of_ble_eq_true rfl) (Or.inr ⟨fun h => c_18 h.2.2, rfl, rfl⟩)
  · skip
    refine lv_if_eq (tgt := 21) hx hb dX5_book_9 (by decide) (fun c_9 => ?_) (fun c_9 => ?_)
    · skip
      refine lv_bipush (v := -99) hx hb dX5_book_21 (by decide) ?_
      exact ct_iret hx hb hr (vp_nar_int _) hlocks hK hw dX5_book_23 (Nat.le_of_ble_eq_true rfl) (Nat.le_of_ble_eq_true rfl) (Or.inr ⟨fun h => hq_6 h.1, rfl, rfl⟩)
    · exact absurd rfl c_9

set_option maxHeartbeats 4000000 in
set_option maxRecDepth 100000 in
theorem c_m_sign (l : Launch) (G : va_G) (Y : Nat → ClassId) (x : Nat) (ad : Nat → Nat) (d sc sz : Nat → Int32) (sg : Nat → Int64) (ik cp wt wa ch ct : Nat → Int32) (th : Int32) (p0 : Int32) (p1 : Int32) (hd : dOK d) (hz : zOK sz) : ctJ l G Y (mW Y x ad) yX5_sign wsX5_sign ({ frames := 1, cells := 0, slots := 0, locals := 40 }) [.ref x, .int p0, .int p1] (d, sc, sz, sg, ik, cp, wt, wa, ch, ct, th) (fun r u' => (¬ (isD p0 ∧ ¬ d (cl p0) < 0) ∧ r = 0 ∧ u' = (d, sc, sz, sg, ik, cp, wt, wa, ch, ct, 1)) ∨ ((isD p0 ∧ ¬ d (cl p0) < 0) ∧ ¬ (¬ p1 < 0 ∧ p1 < sz (cl (d (cl p0)))) ∧ r = 0 ∧ u' = (d, sc, sz, sg, ik, cp, wt, wa, ch, ct, 2)) ∨ ((isD p0 ∧ ¬ d (cl p0) < 0) ∧ (¬ p1 < 0 ∧ p1 < sz (cl (d (cl p0)))) ∧ r = sg (cl (40 * d (cl p0) + p1)) ∧ u' = (d, sc, sz, sg, ik, cp, wt, wa, ch, ct, 0))) := by
  refine ctJ.of (cc := cX5_sign) (maxL := 3) (ret := (some .long)) (by decide) rfl (Nat.le_of_ble_eq_true rfl) ?_
  intro A p e s m below meth c ls hB
  obtain ⟨F, hr, hlocks, hnm, hK, hA, hw, hl⟩ := hB
  obtain ⟨hx, hb, hml, hown, hts⟩ := id F
  have hl : lv_has ls 3 [(0, .ref x), (1, .int p0), (2, .int p1)] := hl
  have hi : ∀ w ∈ wsX50, w ∈ wsX5_sign := by decide +kernel
  have hl7 : Cond.fieldLink RX5 7 "ScriptoriumModel" "desk" "[I" ∈ wsX5_sign := by decide +kernel
  have hl16 : Cond.fieldLink RX5 16 "ScriptoriumModel" "size" "[I" ∈ wsX5_sign := by decide +kernel
  have hl19 : Cond.fieldLink RX5 19 "ScriptoriumModel" "sign" "[J" ∈ wsX5_sign := by decide +kernel
  have hl41 : Cond.fieldLink RX5 41 "ScriptoriumModel" "thrown" "I" ∈ wsX5_sign := by decide +kernel
  refine lv_aload_n hx hb dX5_sign_0 rfl (lv_at hl 0 rfl) ?_
  refine lv_iconst (v := 0) hx hb dX5_sign_1 (by decide) ?_
  refine m_put10 F hi hl41 hK hw dX5_sign_2 (fun H locs hw => ?_)
  refine lv_aload_n hx hb dX5_sign_5 rfl (lv_at hl 0 rfl) ?_
  refine lv_iload_n hx hb dX5_sign_6 rfl (lv_at hl 1 rfl) ?_
  refine (c_m_isDesk l G Y x ad _ _ _ _ _ _ _ _ _ _ _ _).callS F (va_cwS 1 hts gX5_sign_X5_isDesk rfl rfl rfl (by decide +kernel) ⟨Nat.le_of_ble_eq_true rfl, Nat.le_of_ble_eq_true rfl⟩) hK hw hA rfl rfl hl.1 (Nat.le_of_ble_eq_true rfl) dX5_sign_7 ⟨Nat.le_of_ble_eq_true rfl, Nat.le_of_ble_eq_true rfl⟩ (fun r_7 u_7 H locs hp_7 hw => ?_)
  obtain ⟨rfl, ⟨hq_7, rfl⟩ | ⟨hq_7, rfl⟩⟩ := hp_7
  · skip
    refine lv_if_eq (tgt := 22) hx hb dX5_sign_10 (by decide) (fun c_10 => ?_) (fun c_10 => ?_)
    · exact absurd c_10 (by decide)
    · skip
      refine lv_aload_n hx hb dX5_sign_13 rfl (lv_at hl 0 rfl) ?_
      refine m_get0 F hi hl7 hK hw dX5_sign_14 ?_
      refine lv_iload_n hx hb dX5_sign_17 rfl (lv_at hl 1 rfl) ?_
      refine m_ld0 F hK hw hq_7.in dX5_sign_18 ?_
      refine lv_if_ge (tgt := 26) hx hb dX5_sign_19 (by decide) (fun c_19 => ?_) (fun c_19 => ?_)
      · skip
        refine lv_iload_n hx hb dX5_sign_26 rfl (lv_at hl 2 rfl) ?_
        refine lv_if_lt (tgt := 45) hx hb dX5_sign_27 (by decide) (fun c_27 => ?_) (fun c_27 => ?_)
        · skip
          refine lv_iconst (v := 2) hx hb dX5_sign_45 (by decide) ?_
          refine lv_goto (tgt := 50) hx hb dX5_sign_46 (by decide) ?_
          refine m_put10 F hi hl41 hK hw dX5_sign_50 (fun H locs hw => ?_)
          refine lv_aload_n hx hb dX5_sign_53 rfl (lv_at hl 0 rfl) ?_
          refine m_get10 F hi hl41 hK hw dX5_sign_54 ?_
          refine lv_if_le (tgt := 64) hx hb dX5_sign_57 (by decide) (fun c_57 => ?_) (fun c_57 => ?_)
          · exact absurd c_57 (by decide)
          · skip
            refine lv_lconst (v := 0) hx hb dX5_sign_60 (by decide) ?_
            refine lv_goto (tgt := 80) hx hb dX5_sign_61 (by decide) ?_
            exact ct_lret hx hb hr hlocks hK hw dX5_sign_80 (Nat.le_of_ble_eq_true rfl) (Nat.le_of_ble_eq_true rfl) (Or.inr (Or.inl ⟨⟨hq_7, Int32.not_lt.mpr c_19⟩, fun h => h.1 c_27, rfl, rfl⟩))
        · skip
          refine lv_iload_n hx hb dX5_sign_30 rfl (lv_at hl 2 rfl) ?_
          refine lv_aload_n hx hb dX5_sign_31 rfl (lv_at hl 0 rfl) ?_
          refine m_get2 F hi hl16 hK hw dX5_sign_32 ?_
          refine lv_aload_n hx hb dX5_sign_35 rfl (lv_at hl 0 rfl) ?_
          refine m_get0 F hi hl7 hK hw dX5_sign_36 ?_
          refine lv_iload_n hx hb dX5_sign_39 rfl (lv_at hl 1 rfl) ?_
          refine m_ld0 F hK hw hq_7.in dX5_sign_40 ?_
          refine m_ld2 F hK hw (hd.pos hq_7 (Int32.not_lt.mpr c_19)).in dX5_sign_41 ?_
          refine lv_icmp_lt (tgt := 49) hx hb dX5_sign_42 (by decide) (fun c_42 => ?_) (fun c_42 => ?_)
          · skip
            refine lv_iconst (v := 0) hx hb dX5_sign_49 (by decide) ?_
            refine m_put10 F hi hl41 hK hw dX5_sign_50 (fun H locs hw => ?_)
            refine lv_aload_n hx hb dX5_sign_53 rfl (lv_at hl 0 rfl) ?_
            refine m_get10 F hi hl41 hK hw dX5_sign_54 ?_
            refine lv_if_le (tgt := 64) hx hb dX5_sign_57 (by decide) (fun c_57 => ?_) (fun c_57 => ?_)
            · skip
              refine lv_aload_n hx hb dX5_sign_64 rfl (lv_at hl 0 rfl) ?_
              refine m_get3 F hi hl19 hK hw dX5_sign_65 ?_
              refine lv_bipush (v := 40) hx hb dX5_sign_68 (by decide) ?_
              refine lv_aload_n hx hb dX5_sign_70 rfl (lv_at hl 0 rfl) ?_
              refine m_get0 F hi hl7 hK hw dX5_sign_71 ?_
              refine lv_iload_n hx hb dX5_sign_74 rfl (lv_at hl 1 rfl) ?_
              refine m_ld0 F hK hw hq_7.in dX5_sign_75 ?_
              refine lv_imul hx hb dX5_sign_76 ?_
              refine lv_iload_n hx hb dX5_sign_77 rfl (lv_at hl 2 rfl) ?_
              refine lv_iadd hx hb dX5_sign_78 ?_
              obtain ⟨b9, k9, g1, g2, g3, g4, -⟩ := inSign hd hz hq_7 (Int32.not_lt.mpr c_19) c_27 c_42
              refine m_ld3 F hK hw (in40v g1 g2 g3 g4) dX5_sign_79 ?_
              exact ct_lret hx hb hr hlocks hK hw dX5_sign_80 (Nat.le_of_ble_eq_true rfl) (Nat.le_of_ble_eq_true rfl) (Or.inr (Or.inr ⟨⟨hq_7, Int32.not_lt.mpr c_19⟩, ⟨c_27, c_42⟩, rfl, rfl⟩))
            · exact absurd (by decide) c_57
          · skip
            refine lv_iconst (v := 2) hx hb dX5_sign_45 (by decide) ?_
            refine lv_goto (tgt := 50) hx hb dX5_sign_46 (by decide) ?_
            refine m_put10 F hi hl41 hK hw dX5_sign_50 (fun H locs hw => ?_)
            refine lv_aload_n hx hb dX5_sign_53 rfl (lv_at hl 0 rfl) ?_
            refine m_get10 F hi hl41 hK hw dX5_sign_54 ?_
            refine lv_if_le (tgt := 64) hx hb dX5_sign_57 (by decide) (fun c_57 => ?_) (fun c_57 => ?_)
            · exact absurd c_57 (by decide)
            · skip
              refine lv_lconst (v := 0) hx hb dX5_sign_60 (by decide) ?_
              refine lv_goto (tgt := 80) hx hb dX5_sign_61 (by decide) ?_
              exact ct_lret hx hb hr hlocks hK hw dX5_sign_80 (Nat.le_of_ble_eq_true rfl) (Nat.le_of_ble_eq_true rfl) (Or.inr (Or.inl ⟨⟨hq_7, Int32.not_lt.mpr c_19⟩, fun h => c_42 h.2, rfl, rfl⟩))
      · skip
        refine lv_iconst (v := 1) hx hb dX5_sign_22 (by decide) ?_
        refine lv_goto (tgt := 50) hx hb dX5_sign_23 (by decide) ?_
        refine m_put10 F hi hl41 hK hw dX5_sign_50 (fun H locs hw => ?_)
        refine lv_aload_n hx hb dX5_sign_53 rfl (lv_at hl 0 rfl) ?_
        refine m_get10 F hi hl41 hK hw dX5_sign_54 ?_
        refine lv_if_le (tgt := 64) hx hb dX5_sign_57 (by decide) (fun c_57 => ?_) (fun c_57 => ?_)
        · exact absurd c_57 (by decide)
        · skip
          refine lv_lconst (v := 0) hx hb dX5_sign_60 (by decide) ?_
          refine lv_goto (tgt := 80) hx hb dX5_sign_61 (by decide) ?_
          exact ct_lret hx hb hr hlocks hK hw dX5_sign_80 (Nat.le_of_ble_eq_true rfl) (Nat.le_of_ble_eq_true rfl) (Or.inl ⟨fun h => c_19 (Int32.not_lt.mp h.2), rfl, rfl⟩)
  · skip
    refine lv_if_eq (tgt := 22) hx hb dX5_sign_10 (by decide) (fun c_10 => ?_) (fun c_10 => ?_)
    · skip
      refine lv_iconst (v := 1) hx hb dX5_sign_22 (by decide) ?_
      refine lv_goto (tgt := 50) hx hb dX5_sign_23 (by decide) ?_
      refine m_put10 F hi hl41 hK hw dX5_sign_50 (fun H locs hw => ?_)
      refine lv_aload_n hx hb dX5_sign_53 rfl (lv_at hl 0 rfl) ?_
      refine m_get10 F hi hl41 hK hw dX5_sign_54 ?_
      refine lv_if_le (tgt := 64) hx hb dX5_sign_57 (by decide) (fun c_57 => ?_) (fun c_57 => ?_)
      · exact absurd c_57 (by decide)
      · skip
        refine lv_lconst (v := 0) hx hb dX5_sign_60 (by decide) ?_
        refine lv_goto (tgt := 80) hx hb dX5_sign_61 (by decide) ?_
        exact ct_lret hx hb hr hlocks hK hw dX5_sign_80 (Nat.le_of_ble_eq_true rfl) (Nat.le_of_ble_eq_true rfl) (Or.inl ⟨fun h => hq_7 h.1, rfl, rfl⟩)
    · exact absurd rfl c_10

set_option maxHeartbeats 4000000 in
set_option maxRecDepth 100000 in
theorem c_m_order (l : Launch) (G : va_G) (Y : Nat → ClassId) (x : Nat) (ad : Nat → Nat) (d sc sz : Nat → Int32) (sg : Nat → Int64) (ik cp wt wa ch ct : Nat → Int32) (th : Int32) (p0 : Int32) (p1 : Int32) (p2 : Int32) (p3 : Int32) (p4 : Int32) (p5 : Int32) (hwa : wOK wa) : ctI l G Y (mW Y x ad) yX5_order wsX5_order ({ frames := 1, cells := 0, slots := 0, locals := 40 }) [.ref x, .int p0, .int p1, .int p2, .int p3, .int p4, .int p5] (d, sc, sz, sg, ik, cp, wt, wa, ch, ct, th) (fun r u' => ((isS p0 ∧ isD p1 ∧ isD p3 ∧ ¬ wa (cl p0) = 8) ∧ r = wa (cl p0) + 1 ∧ u' = (d, sc, sz, sg, ik, cp, mWt wt (mOrdAt p0 (wa (cl p0))) p1 p2 p3 p4 p5, upd wa (cl p0) (wa (cl p0) + 1), ch, ct, 0)) ∨ (¬ (isS p0 ∧ isD p1 ∧ isD p3 ∧ ¬ wa (cl p0) = 8) ∧ r = -99 ∧ u' = (d, sc, sz, sg, ik, cp, wt, wa, ch, ct, 0))) := by
  refine ctI.of (cc := cX5_order) (maxL := 8) (ret := (some .int)) (by decide) rfl (Nat.le_of_ble_eq_true rfl) ?_
  intro A p e s m below meth c ls hB
  obtain ⟨F, hr, hlocks, hnm, hK, hA, hw, hl⟩ := hB
  obtain ⟨hx, hb, hml, hown, hts⟩ := id F
  have hl : lv_has ls 8 [(0, .ref x), (1, .int p0), (2, .int p1), (3, .int p2), (4, .int p3), (5, .int p4), (6, .int p5)] := hl
  have hi : ∀ w ∈ wsX50, w ∈ wsX5_order := by decide +kernel
  have hl29 : Cond.fieldLink RX5 29 "ScriptoriumModel" "wait" "[I" ∈ wsX5_order := by decide +kernel
  have hl32 : Cond.fieldLink RX5 32 "ScriptoriumModel" "waits" "[I" ∈ wsX5_order := by decide +kernel
  have hl41 : Cond.fieldLink RX5 41 "ScriptoriumModel" "thrown" "I" ∈ wsX5_order := by decide +kernel
  refine lv_aload_n hx hb dX5_order_0 rfl (lv_at hl 0 rfl) ?_
  refine lv_iconst (v := 0) hx hb dX5_order_1 (by decide) ?_
  refine m_put10 F hi hl41 hK hw dX5_order_2 (fun H locs hw => ?_)
  refine lv_iload_n hx hb dX5_order_5 rfl (lv_at hl 1 rfl) ?_
  refine (c_m_isScribe l G Y x ad _ _ _ _ _ _ _ _ _ _ _ _).callS F (va_cwS 1 hts gX5_order_X5_isScribe rfl rfl rfl (by decide +kernel) ⟨Nat.le_of_ble_eq_true rfl, Nat.le_of_ble_eq_true rfl⟩) hK hw hA rfl rfl hl.1 (Nat.le_of_ble_eq_true rfl) dX5_order_6 ⟨Nat.le_of_ble_eq_true rfl, Nat.le_of_ble_eq_true rfl⟩ (fun r_6 u_6 H locs hp_6 hw => ?_)
  obtain ⟨rfl, ⟨hq_6, rfl⟩ | ⟨hq_6, rfl⟩⟩ := hp_6
  · skip
    refine lv_if_eq (tgt := 38) hx hb dX5_order_9 (by decide) (fun c_9 => ?_) (fun c_9 => ?_)
    · exact absurd c_9 (by decide)
    · skip
      refine lv_iload_n hx hb dX5_order_12 rfl (lv_at hl 2 rfl) ?_
      refine (c_m_isDesk l G Y x ad _ _ _ _ _ _ _ _ _ _ _ _).callS F (va_cwS 1 hts gX5_order_X5_isDesk rfl rfl rfl (by decide +kernel) ⟨Nat.le_of_ble_eq_true rfl, Nat.le_of_ble_eq_true rfl⟩) hK hw hA rfl rfl hl.1 (Nat.le_of_ble_eq_true rfl) dX5_order_13 ⟨Nat.le_of_ble_eq_true rfl, Nat.le_of_ble_eq_true rfl⟩ (fun r_13 u_13 H locs hp_13 hw => ?_)
      obtain ⟨rfl, ⟨hq_13, rfl⟩ | ⟨hq_13, rfl⟩⟩ := hp_13
      · skip
        refine lv_if_eq (tgt := 38) hx hb dX5_order_16 (by decide) (fun c_16 => ?_) (fun c_16 => ?_)
        · exact absurd c_16 (by decide)
        · skip
          refine lv_iload hx hb dX5_order_19 (lv_at hl 4 rfl) ?_
          refine (c_m_isDesk l G Y x ad _ _ _ _ _ _ _ _ _ _ _ _).callS F (va_cwS 1 hts gX5_order_X5_isDesk rfl rfl rfl (by decide +kernel) ⟨Nat.le_of_ble_eq_true rfl, Nat.le_of_ble_eq_true rfl⟩) hK hw hA rfl rfl hl.1 (Nat.le_of_ble_eq_true rfl) dX5_order_21 ⟨Nat.le_of_ble_eq_true rfl, Nat.le_of_ble_eq_true rfl⟩ (fun r_21 u_21 H locs hp_21 hw => ?_)
          obtain ⟨rfl, ⟨hq_21, rfl⟩ | ⟨hq_21, rfl⟩⟩ := hp_21
          · skip
            refine lv_if_eq (tgt := 38) hx hb dX5_order_24 (by decide) (fun c_24 => ?_) (fun c_24 => ?_)
            · exact absurd c_24 (by decide)
            · skip
              refine lv_aload_n hx hb dX5_order_27 rfl (lv_at hl 0 rfl) ?_
              refine m_get7 F hi hl32 hK hw dX5_order_28 ?_
              refine lv_iload_n hx hb dX5_order_31 rfl (lv_at hl 1 rfl) ?_
              refine m_ld7 F hK hw hq_6.in dX5_order_32 ?_
              refine lv_bipush (v := 8) hx hb dX5_order_33 (by decide) ?_
              refine lv_icmp_ne (tgt := 41) hx hb dX5_order_35 (by decide) (fun c_35 => ?_) (fun c_35 => ?_)
              · skip
                refine lv_iconst (v := 5) hx hb dX5_order_41 (by decide) ?_
                refine lv_bipush (v := 8) hx hb dX5_order_42 (by decide) ?_
                refine lv_iload_n hx hb dX5_order_44 rfl (lv_at hl 1 rfl) ?_
                refine lv_imul hx hb dX5_order_45 ?_
                refine lv_aload_n hx hb dX5_order_46 rfl (lv_at hl 0 rfl) ?_
                refine m_get7 F hi hl32 hK hw dX5_order_47 ?_
                refine lv_iload_n hx hb dX5_order_50 rfl (lv_at hl 1 rfl) ?_
                refine m_ld7 F hK hw hq_6.in dX5_order_51 ?_
                refine lv_iadd hx hb dX5_order_52 ?_
                refine lv_imul hx hb dX5_order_53 ?_
                refine lv_topi (fun at_ eat => ?_)
                obtain ⟨s9, w9, g1, g2, g3, g4, g5⟩ := inOrd hwa hq_6 c_35
                have eat : at_ = mOrdAt p0 (wa (cl p0)) := eat
                rw [← eat] at g5
                refine lv_istore (lv' := [(7, .int _), (0, .ref _), (1, .int _), (2, .int _), (3, .int _), (4, .int _), (5, .int _), (6, .int _)]) hx hb dX5_order_54 hl (by decide) rfl (fun ls hl => ?_)
                refine lv_aload_n hx hb dX5_order_56 rfl (lv_at hl 1 rfl) ?_
                refine m_get6 F hi hl29 hK hw dX5_order_57 ?_
                refine lv_iload hx hb dX5_order_60 (lv_at hl 0 rfl) ?_
                refine lv_iload_n hx hb dX5_order_62 rfl (lv_at hl 3 rfl) ?_
                refine m_st6 F hK hw (inOrd0 (g5 0 (by decide)).1) dX5_order_63 (fun H locs hw => ?_)
                refine lv_aload_n hx hb dX5_order_64 rfl (lv_at hl 1 rfl) ?_
                refine m_get6 F hi hl29 hK hw dX5_order_65 ?_
                refine lv_iload hx hb dX5_order_68 (lv_at hl 0 rfl) ?_
                refine lv_iconst (v := 1) hx hb dX5_order_70 (by decide) ?_
                refine lv_iadd hx hb dX5_order_71 ?_
                refine lv_iload_n hx hb dX5_order_72 rfl (lv_at hl 4 rfl) ?_
                refine m_st6 F hK hw (g5 1 (by decide)).1 dX5_order_73 (fun H locs hw => ?_)
                refine lv_aload_n hx hb dX5_order_74 rfl (lv_at hl 1 rfl) ?_
                refine m_get6 F hi hl29 hK hw dX5_order_75 ?_
                refine lv_iload hx hb dX5_order_78 (lv_at hl 0 rfl) ?_
                refine lv_iconst (v := 2) hx hb dX5_order_80 (by decide) ?_
                refine lv_iadd hx hb dX5_order_81 ?_
                refine lv_iload hx hb dX5_order_82 (lv_at hl 5 rfl) ?_
                refine m_st6 F hK hw (g5 2 (by decide)).1 dX5_order_84 (fun H locs hw => ?_)
                refine lv_aload_n hx hb dX5_order_85 rfl (lv_at hl 1 rfl) ?_
                refine m_get6 F hi hl29 hK hw dX5_order_86 ?_
                refine lv_iload hx hb dX5_order_89 (lv_at hl 0 rfl) ?_
                refine lv_iconst (v := 3) hx hb dX5_order_91 (by decide) ?_
                refine lv_iadd hx hb dX5_order_92 ?_
                refine lv_iload hx hb dX5_order_93 (lv_at hl 6 rfl) ?_
                refine m_st6 F hK hw (g5 3 (by decide)).1 dX5_order_95 (fun H locs hw => ?_)
                refine lv_aload_n hx hb dX5_order_96 rfl (lv_at hl 1 rfl) ?_
                refine m_get6 F hi hl29 hK hw dX5_order_97 ?_
                refine lv_iload hx hb dX5_order_100 (lv_at hl 0 rfl) ?_
                refine lv_iconst (v := 4) hx hb dX5_order_102 (by decide) ?_
                refine lv_iadd hx hb dX5_order_103 ?_
                refine lv_iload hx hb dX5_order_104 (lv_at hl 7 rfl) ?_
                refine m_st6 F hK hw (g5 4 (by decide)).1 dX5_order_106 (fun H locs hw => ?_)
                refine lv_aload_n hx hb dX5_order_107 rfl (lv_at hl 1 rfl) ?_
                refine m_get7 F hi hl32 hK hw dX5_order_108 ?_
                refine lv_iload_n hx hb dX5_order_111 rfl (lv_at hl 2 rfl) ?_
                refine lv_dup2_11 hx hb dX5_order_112 rfl rfl ?_
                refine m_ld7 F hK hw hq_6.in dX5_order_113 ?_
                refine lv_iconst (v := 1) hx hb dX5_order_114 (by decide) ?_
                refine lv_iadd hx hb dX5_order_115 ?_
                refine m_st7 F hK hw hq_6.in dX5_order_116 (fun H locs hw => ?_)
                refine lv_aload_n hx hb dX5_order_117 rfl (lv_at hl 1 rfl) ?_
                refine m_get7 F hi hl32 hK hw dX5_order_118 ?_
                refine lv_iload_n hx hb dX5_order_121 rfl (lv_at hl 2 rfl) ?_
                refine m_ld7 F hK hw hq_6.in dX5_order_122 ?_
                exact ct_iret hx hb hr (vp_nar_int _) hlocks hK hw dX5_order_123 (Nat.le_of_ble_eq_true rfl) (Nat.le_of_ble_eq_true rfl) (Or.inl ⟨⟨hq_6, hq_13, hq_21, c_35⟩, by rw [pk_us], by rw [eat]; rfl⟩)
              · skip
                refine lv_bipush (v := -99) hx hb dX5_order_38 (by decide) ?_
                exact ct_iret hx hb hr (vp_nar_int _) hlocks hK hw dX5_order_40 (Nat.le_of_ble_eq_true rfl) (Nat.le_of_ble_eq_true rfl) (Or.inr ⟨fun h => h.2.2.2 c_35, rfl, rfl⟩)
          · skip
            refine lv_if_eq (tgt := 38) hx hb dX5_order_24 (by decide) (fun c_24 => ?_) (fun c_24 => ?_)
            · skip
              refine lv_bipush (v := -99) hx hb dX5_order_38 (by decide) ?_
              exact ct_iret hx hb hr (vp_nar_int _) hlocks hK hw dX5_order_40 (Nat.le_of_ble_eq_true rfl) (Nat.le_of_ble_eq_true rfl) (Or.inr ⟨fun h => hq_21 h.2.2.1, rfl, rfl⟩)
            · exact absurd rfl c_24
      · skip
        refine lv_if_eq (tgt := 38) hx hb dX5_order_16 (by decide) (fun c_16 => ?_) (fun c_16 => ?_)
        · skip
          refine lv_bipush (v := -99) hx hb dX5_order_38 (by decide) ?_
          exact ct_iret hx hb hr (vp_nar_int _) hlocks hK hw dX5_order_40 (Nat.le_of_ble_eq_true rfl) (Nat.le_of_ble_eq_true rfl) (Or.inr ⟨fun h => hq_13 h.2.1, rfl, rfl⟩)
        · exact absurd rfl c_16
  · skip
    refine lv_if_eq (tgt := 38) hx hb dX5_order_9 (by decide) (fun c_9 => ?_) (fun c_9 => ?_)
    · skip
      refine lv_bipush (v := -99) hx hb dX5_order_38 (by decide) ?_
      exact ct_iret hx hb hr (vp_nar_int _) hlocks hK hw dX5_order_40 (Nat.le_of_ble_eq_true rfl) (Nat.le_of_ble_eq_true rfl) (Or.inr ⟨fun h => hq_6 h.1, rfl, rfl⟩)
    · exact absurd rfl c_9

set_option maxHeartbeats 4000000 in
set_option maxRecDepth 100000 in
theorem c_m_write (l : Launch) (G : va_G) (Y : Nat → ClassId) (x : Nat) (ad : Nat → Nat) (d sc sz : Nat → Int32) (sg : Nat → Int64) (ik cp wt wa ch ct : Nat → Int32) (th : Int32) (p0 : Int32) (p1 : Int32) (p2 : Int32) (v0 : Int64) (hd : dOK d) (hz : zOK sz) (hk0 : ¬ 5 < sc (cl (d (cl p0))) → (sc (cl (d (cl p0))) = 0 ∨ sc (cl (d (cl p0))) = 1 ∨ sc (cl (d (cl p0))) = 2 ∨ sc (cl (d (cl p0))) = 3 ∨ sc (cl (d (cl p0))) = 4 ∨ sc (cl (d (cl p0))) = 5)) : ctI l G Y (mW Y x ad) yX5_write wsX5_write ({ frames := 1, cells := 0, slots := 0, locals := 60 }) [.ref x, .int p0, .int p1, .int p2, .long v0] (d, sc, sz, sg, ik, cp, wt, wa, ch, ct, th) (fun r u' => mWriteP (d, sc, sz, sg, ik, cp, wt, wa, ch, ct, th) p0 p1 p2 v0 r u') := by
  refine ctI.of (cc := cX5_write) (maxL := 9) (ret := (some .int)) (by decide) rfl (Nat.le_of_ble_eq_true rfl) ?_
  intro A p e s m below meth c ls hB
  obtain ⟨F, hr, hlocks, hnm, hK, hA, hw, hl⟩ := hB
  obtain ⟨hx, hb, hml, hown, hts⟩ := id F
  have hl : lv_has ls 9 [(0, .ref x), (1, .int p0), (2, .int p1), (3, .int p2), (4, .long v0)] := hl
  have hi : ∀ w ∈ wsX50, w ∈ wsX5_write := by decide +kernel
  have hl7 : Cond.fieldLink RX5 7 "ScriptoriumModel" "desk" "[I" ∈ wsX5_write := by decide +kernel
  have hl13 : Cond.fieldLink RX5 13 "ScriptoriumModel" "script" "[I" ∈ wsX5_write := by decide +kernel
  have hl16 : Cond.fieldLink RX5 16 "ScriptoriumModel" "size" "[I" ∈ wsX5_write := by decide +kernel
  have hl19 : Cond.fieldLink RX5 19 "ScriptoriumModel" "sign" "[J" ∈ wsX5_write := by decide +kernel
  have hl41 : Cond.fieldLink RX5 41 "ScriptoriumModel" "thrown" "I" ∈ wsX5_write := by decide +kernel
  refine lv_aload_n hx hb dX5_write_0 rfl (lv_at hl 0 rfl) ?_
  refine lv_iconst (v := 0) hx hb dX5_write_1 (by decide) ?_
  refine m_put10 F hi hl41 hK hw dX5_write_2 (fun H locs hw => ?_)
  refine lv_iload_n hx hb dX5_write_5 rfl (lv_at hl 1 rfl) ?_
  refine (c_m_isDesk l G Y x ad _ _ _ _ _ _ _ _ _ _ _ _).callS F (va_cwS 1 hts gX5_write_X5_isDesk rfl rfl rfl (by decide +kernel) ⟨Nat.le_of_ble_eq_true rfl, Nat.le_of_ble_eq_true rfl⟩) hK hw hA rfl rfl hl.1 (Nat.le_of_ble_eq_true rfl) dX5_write_6 ⟨Nat.le_of_ble_eq_true rfl, Nat.le_of_ble_eq_true rfl⟩ (fun r_6 u_6 H locs hp_6 hw => ?_)
  obtain ⟨rfl, ⟨hq_6, rfl⟩ | ⟨hq_6, rfl⟩⟩ := hp_6
  · skip
    refine lv_if_ne (tgt := 15) hx hb dX5_write_9 (by decide) (fun c_9 => ?_) (fun c_9 => ?_)
    · skip
      refine lv_aload_n hx hb dX5_write_15 rfl (lv_at hl 0 rfl) ?_
      refine m_get0 F hi hl7 hK hw dX5_write_16 ?_
      refine lv_iload_n hx hb dX5_write_19 rfl (lv_at hl 1 rfl) ?_
      refine m_ld0 F hK hw hq_6.in dX5_write_20 ?_
      refine lv_istore (lv' := [(6, .int _), (0, .ref _), (1, .int _), (2, .int _), (3, .int _), (4, .long _)]) hx hb dX5_write_21 hl (by decide) rfl (fun ls hl => ?_)
      refine lv_iload hx hb dX5_write_23 (lv_at hl 0 rfl) ?_
      refine lv_if_lt (tgt := 49) hx hb dX5_write_25 (by decide) (fun c_25 => ?_) (fun c_25 => ?_)
      · skip
        refine lv_iload hx hb dX5_write_49 (lv_at hl 0 rfl) ?_
        refine lv_if_ge (tgt := 57) hx hb dX5_write_51 (by decide) (fun c_51 => ?_) (fun c_51 => ?_)
        · exact absurd c_51 (Int32.not_le.mpr c_25)
        · skip
          refine lv_iload hx hb dX5_write_54 (lv_at hl 0 rfl) ?_
          exact ct_iret hx hb hr (vp_nar_int _) hlocks hK hw dX5_write_56 (Nat.le_of_ble_eq_true rfl) (Nat.le_of_ble_eq_true rfl) (Or.inr (Or.inr (Or.inl ⟨hq_6, c_25, rfl, rfl⟩)))
      · skip
        refine lv_aload_n hx hb dX5_write_28 rfl (lv_at hl 1 rfl) ?_
        refine lv_iload hx hb dX5_write_29 (lv_at hl 0 rfl) ?_
        refine (c_m_isPictures l G Y x ad _ _ _ _ _ _ _ _ _ _ _ _ (hd.pos hq_6 c_25)).callV F (cwV 1 hts gX5_write_X5_isPictures rfl rfl rfl (by decide +kernel) ⟨Nat.le_of_ble_eq_true rfl, Nat.le_of_ble_eq_true rfl⟩) hK hw hA (m_recv hK hw) rfl rfl hl.1 (Nat.le_of_ble_eq_true rfl) dX5_write_31 ⟨Nat.le_of_ble_eq_true rfl, Nat.le_of_ble_eq_true rfl⟩ (fun r_31 u_31 H locs hp_31 hw => ?_)
        obtain ⟨rfl, ⟨hq_31, rfl⟩ | ⟨hq_31, rfl⟩⟩ := hp_31
        · skip
          refine lv_if_eq (tgt := 49) hx hb dX5_write_34 (by decide) (fun c_34 => ?_) (fun c_34 => ?_)
          · exact absurd c_34 (by decide)
          · skip
            refine lv_iload_n hx hb dX5_write_37 rfl (lv_at hl 4 rfl) ?_
            refine lv_if_lt (tgt := 46) hx hb dX5_write_38 (by decide) (fun c_38 => ?_) (fun c_38 => ?_)
            · skip
              refine lv_bipush (v := -99) hx hb dX5_write_46 (by decide) ?_
              exact ct_iret hx hb hr (vp_nar_int _) hlocks hK hw dX5_write_48 (Nat.le_of_ble_eq_true rfl) (Nat.le_of_ble_eq_true rfl) (Or.inr (Or.inl ⟨hq_6, ⟨c_25, hq_31, fun h => h.1 c_38⟩, rfl, rfl⟩))
            · skip
              refine lv_iload_n hx hb dX5_write_41 rfl (lv_at hl 4 rfl) ?_
              refine lv_iconst (v := 2) hx hb dX5_write_42 (by decide) ?_
              refine lv_icmp_le (tgt := 49) hx hb dX5_write_43 (by decide) (fun c_43 => ?_) (fun c_43 => ?_)
              · skip
                refine lv_iload hx hb dX5_write_49 (lv_at hl 0 rfl) ?_
                refine lv_if_ge (tgt := 57) hx hb dX5_write_51 (by decide) (fun c_51 => ?_) (fun c_51 => ?_)
                · skip
                  refine lv_iload_n hx hb dX5_write_57 rfl (lv_at hl 3 rfl) ?_
                  refine lv_if_lt (tgt := 72) hx hb dX5_write_58 (by decide) (fun c_58 => ?_) (fun c_58 => ?_)
                  · skip
                    refine lv_bipush (v := -3) hx hb dX5_write_72 (by decide) ?_
                    exact ct_iret hx hb hr (vp_nar_int _) hlocks hK hw dX5_write_74 (Nat.le_of_ble_eq_true rfl) (Nat.le_of_ble_eq_true rfl) (Or.inr (Or.inr (Or.inr (Or.inl ⟨hq_6, c_25, (fun _ => ⟨c_38, c_43⟩), fun h => h.1 c_58, rfl, rfl⟩))))
                  · skip
                    refine lv_iload_n hx hb dX5_write_61 rfl (lv_at hl 3 rfl) ?_
                    refine lv_aload_n hx hb dX5_write_62 rfl (lv_at hl 1 rfl) ?_
                    refine m_get2 F hi hl16 hK hw dX5_write_63 ?_
                    refine lv_iload hx hb dX5_write_66 (lv_at hl 0 rfl) ?_
                    refine m_ld2 F hK hw (hd.pos hq_6 c_25).in dX5_write_68 ?_
                    refine lv_icmp_lt (tgt := 75) hx hb dX5_write_69 (by decide) (fun c_69 => ?_) (fun c_69 => ?_)
                    · skip
                      refine lv_aload_n hx hb dX5_write_75 rfl (lv_at hl 1 rfl) ?_
                      refine lv_iload hx hb dX5_write_76 (lv_at hl 0 rfl) ?_
                      refine (c_m_isPictures l G Y x ad _ _ _ _ _ _ _ _ _ _ _ _ (hd.pos hq_6 c_25)).callV F (cwV 1 hts gX5_write_X5_isPictures rfl rfl rfl (by decide +kernel) ⟨Nat.le_of_ble_eq_true rfl, Nat.le_of_ble_eq_true rfl⟩) hK hw hA (m_recv hK hw) rfl rfl hl.1 (Nat.le_of_ble_eq_true rfl) dX5_write_78 ⟨Nat.le_of_ble_eq_true rfl, Nat.le_of_ble_eq_true rfl⟩ (fun r_78 u_78 H locs hp_78 hw => ?_)
                      obtain ⟨rfl, ⟨hq_78, rfl⟩ | ⟨hq_78, rfl⟩⟩ := hp_78
                      · skip
                        refine lv_if_ne (tgt := 99) hx hb dX5_write_81 (by decide) (fun c_81 => ?_) (fun c_81 => ?_)
                        · skip
                          refine lv_iload_n hx hb dX5_write_99 rfl (lv_at hl 4 rfl) ?_
                          refine lv_if_ne (tgt := 107) hx hb dX5_write_100 (by decide) (fun c_100 => ?_) (fun c_100 => ?_)
                          · skip
                            refine lv_ldc2 hx hb hown (hts (.constantLong RX5 64 (4)) (by decide +kernel)) dX5_write_107 ?_
                            refine lv_lload hx hb dX5_write_110 (lv_at hl 5 rfl) ?_
                            refine lv_bipush (v := 32) hx hb dX5_write_112 (by decide) ?_
                            refine lv_lshl hx hb dX5_write_114 rfl ?_
                            refine lv_bipush (v := 32) hx hb dX5_write_115 (by decide) ?_
                            refine lv_lshr hx hb dX5_write_117 rfl ?_
                            refine lv_lmul hx hb dX5_write_118 ?_
                            refine lv_iload_n hx hb dX5_write_119 rfl (lv_at hl 4 rfl) ?_
                            refine lv_i2l hx hb dX5_write_120 rfl ?_
                            refine lv_ladd hx hb dX5_write_121 ?_
                            refine lv_topl (fun v9 ev9 => ?_)
                            have ev9 : v9 = mSgn (sc (cl (d (cl p0)))) p2 v0 := ev9.trans (by unfold mSgn; rw [if_pos hq_78, if_neg c_100]; rfl)
                            refine lv_lstore (lv' := [(7, .long _), (6, .int _), (0, .ref _), (1, .int _), (2, .int _), (3, .int _), (4, .long _)]) hx hb dX5_write_122 hl (by decide) rfl (fun ls hl => ?_)
                            refine lv_aload_n hx hb dX5_write_124 rfl (lv_at hl 2 rfl) ?_
                            refine lv_iload hx hb dX5_write_125 (lv_at hl 1 rfl) ?_
                            refine (c_m_isPictures l G Y x ad _ _ _ _ _ _ _ _ _ _ _ _ (hd.pos hq_6 c_25)).callV F (cwV 1 hts gX5_write_X5_isPictures rfl rfl rfl (by decide +kernel) ⟨Nat.le_of_ble_eq_true rfl, Nat.le_of_ble_eq_true rfl⟩) hK hw hA (m_recv hK hw) rfl rfl hl.1 (Nat.le_of_ble_eq_true rfl) dX5_write_127 ⟨Nat.le_of_ble_eq_true rfl, Nat.le_of_ble_eq_true rfl⟩ (fun r_127 u_127 H locs hp_127 hw => ?_)
                            obtain ⟨rfl, ⟨hq_127, rfl⟩ | ⟨hq_127, rfl⟩⟩ := hp_127
                            · skip
                              refine lv_if_eq (tgt := 147) hx hb dX5_write_130 (by decide) (fun c_130 => ?_) (fun c_130 => ?_)
                              · exact absurd c_130 (by decide)
                              · skip
                                refine lv_aload_n hx hb dX5_write_133 rfl (lv_at hl 2 rfl) ?_
                                refine lv_iload hx hb dX5_write_134 (lv_at hl 1 rfl) ?_
                                refine lv_lload hx hb dX5_write_136 (lv_at hl 0 rfl) ?_
                                refine (c_m_may l G Y x ad _ _ _ _ _ _ _ _ _ _ _ _ _ (hd.pos hq_6 c_25)).callV F (cwV 2 hts gX5_write_X5_may rfl rfl rfl (by decide +kernel) ⟨Nat.le_of_ble_eq_true rfl, Nat.le_of_ble_eq_true rfl⟩) hK hw hA (m_recv hK hw) rfl rfl hl.1 (Nat.le_of_ble_eq_true rfl) dX5_write_138 ⟨Nat.le_of_ble_eq_true rfl, Nat.le_of_ble_eq_true rfl⟩ (fun r_138 u_138 H locs hp_138 hw => ?_)
                                obtain ⟨rfl, ⟨hq_138, rfl⟩ | ⟨hq_138, rfl⟩⟩ := hp_138
                                · skip
                                  refine lv_if_ne (tgt := 147) hx hb dX5_write_141 (by decide) (fun c_141 => ?_) (fun c_141 => ?_)
                                  · skip
                                    refine lv_aload_n hx hb dX5_write_147 rfl (lv_at hl 2 rfl) ?_
                                    refine m_get3 F hi hl19 hK hw dX5_write_148 ?_
                                    refine lv_bipush (v := 40) hx hb dX5_write_151 (by decide) ?_
                                    refine lv_iload hx hb dX5_write_153 (lv_at hl 1 rfl) ?_
                                    refine lv_imul hx hb dX5_write_155 ?_
                                    refine lv_iload_n hx hb dX5_write_156 rfl (lv_at hl 4 rfl) ?_
                                    refine lv_iadd hx hb dX5_write_157 ?_
                                    refine lv_lload hx hb dX5_write_158 (lv_at hl 0 rfl) ?_
                                    obtain ⟨b9, k9, g1, g2, g3, g4, -⟩ := inSign hd hz hq_6 c_25 c_58 c_69
                                    refine m_st3 F hK hw (in40v g1 g2 g3 g4) dX5_write_160 (fun H locs hw => ?_)
                                    refine lv_iconst (v := 0) hx hb dX5_write_161 (by decide) ?_
                                    exact ct_iret hx hb hr (vp_nar_int _) hlocks hK hw dX5_write_162 (Nat.le_of_ble_eq_true rfl) (Nat.le_of_ble_eq_true rfl) (Or.inr (Or.inr (Or.inr (Or.inr (Or.inr ⟨hq_6, c_25, (fun _ => ⟨c_38, c_43⟩), ⟨c_58, c_69⟩, (fun _ => by rw [← ev9]; exact hq_138), rfl, by rw [ev9]⟩)))))
                                  · exact absurd c_141 (by decide)
                                · skip
                                  refine lv_if_ne (tgt := 147) hx hb dX5_write_141 (by decide) (fun c_141 => ?_) (fun c_141 => ?_)
                                  · exact absurd rfl c_141
                                  · skip
                                    refine lv_bipush (v := -10) hx hb dX5_write_144 (by decide) ?_
                                    exact ct_iret hx hb hr (vp_nar_int _) hlocks hK hw dX5_write_146 (Nat.le_of_ble_eq_true rfl) (Nat.le_of_ble_eq_true rfl) (Or.inr (Or.inr (Or.inr (Or.inr (Or.inl ⟨hq_6, c_25, (fun _ => ⟨c_38, c_43⟩), ⟨c_58, c_69⟩, ⟨hq_127, by rw [← ev9]; exact hq_138⟩, rfl, rfl⟩)))))
                            · skip
                              refine lv_if_eq (tgt := 147) hx hb dX5_write_130 (by decide) (fun c_130 => ?_) (fun c_130 => ?_)
                              · skip
                                refine lv_aload_n hx hb dX5_write_147 rfl (lv_at hl 2 rfl) ?_
                                refine m_get3 F hi hl19 hK hw dX5_write_148 ?_
                                refine lv_bipush (v := 40) hx hb dX5_write_151 (by decide) ?_
                                refine lv_iload hx hb dX5_write_153 (lv_at hl 1 rfl) ?_
                                refine lv_imul hx hb dX5_write_155 ?_
                                refine lv_iload_n hx hb dX5_write_156 rfl (lv_at hl 4 rfl) ?_
                                refine lv_iadd hx hb dX5_write_157 ?_
                                refine lv_lload hx hb dX5_write_158 (lv_at hl 0 rfl) ?_
                                obtain ⟨b9, k9, g1, g2, g3, g4, -⟩ := inSign hd hz hq_6 c_25 c_58 c_69
                                refine m_st3 F hK hw (in40v g1 g2 g3 g4) dX5_write_160 (fun H locs hw => ?_)
                                refine lv_iconst (v := 0) hx hb dX5_write_161 (by decide) ?_
                                exact ct_iret hx hb hr (vp_nar_int _) hlocks hK hw dX5_write_162 (Nat.le_of_ble_eq_true rfl) (Nat.le_of_ble_eq_true rfl) (Or.inr (Or.inr (Or.inr (Or.inr (Or.inr ⟨hq_6, c_25, (fun _ => ⟨c_38, c_43⟩), ⟨c_58, c_69⟩, (fun h => absurd h hq_127), rfl, by rw [ev9]⟩)))))
                              · exact absurd rfl c_130
                          · skip
                            refine lv_lconst (v := 0) hx hb dX5_write_103 (by decide) ?_
                            refine lv_goto (tgt := 122) hx hb dX5_write_104 (by decide) ?_
                            refine lv_topl (fun v9 ev9 => ?_)
                            have ev9 : v9 = mSgn (sc (cl (d (cl p0)))) p2 v0 := ev9.trans (by unfold mSgn; rw [if_pos hq_78, if_pos c_100])
                            refine lv_lstore (lv' := [(7, .long _), (6, .int _), (0, .ref _), (1, .int _), (2, .int _), (3, .int _), (4, .long _)]) hx hb dX5_write_122 hl (by decide) rfl (fun ls hl => ?_)
                            refine lv_aload_n hx hb dX5_write_124 rfl (lv_at hl 2 rfl) ?_
                            refine lv_iload hx hb dX5_write_125 (lv_at hl 1 rfl) ?_
                            refine (c_m_isPictures l G Y x ad _ _ _ _ _ _ _ _ _ _ _ _ (hd.pos hq_6 c_25)).callV F (cwV 1 hts gX5_write_X5_isPictures rfl rfl rfl (by decide +kernel) ⟨Nat.le_of_ble_eq_true rfl, Nat.le_of_ble_eq_true rfl⟩) hK hw hA (m_recv hK hw) rfl rfl hl.1 (Nat.le_of_ble_eq_true rfl) dX5_write_127 ⟨Nat.le_of_ble_eq_true rfl, Nat.le_of_ble_eq_true rfl⟩ (fun r_127 u_127 H locs hp_127 hw => ?_)
                            obtain ⟨rfl, ⟨hq_127, rfl⟩ | ⟨hq_127, rfl⟩⟩ := hp_127
                            · skip
                              refine lv_if_eq (tgt := 147) hx hb dX5_write_130 (by decide) (fun c_130 => ?_) (fun c_130 => ?_)
                              · exact absurd c_130 (by decide)
                              · skip
                                refine lv_aload_n hx hb dX5_write_133 rfl (lv_at hl 2 rfl) ?_
                                refine lv_iload hx hb dX5_write_134 (lv_at hl 1 rfl) ?_
                                refine lv_lload hx hb dX5_write_136 (lv_at hl 0 rfl) ?_
                                refine (c_m_may l G Y x ad _ _ _ _ _ _ _ _ _ _ _ _ _ (hd.pos hq_6 c_25)).callV F (cwV 2 hts gX5_write_X5_may rfl rfl rfl (by decide +kernel) ⟨Nat.le_of_ble_eq_true rfl, Nat.le_of_ble_eq_true rfl⟩) hK hw hA (m_recv hK hw) rfl rfl hl.1 (Nat.le_of_ble_eq_true rfl) dX5_write_138 ⟨Nat.le_of_ble_eq_true rfl, Nat.le_of_ble_eq_true rfl⟩ (fun r_138 u_138 H locs hp_138 hw => ?_)
                                obtain ⟨rfl, ⟨hq_138, rfl⟩ | ⟨hq_138, rfl⟩⟩ := hp_138
                                · skip
                                  refine lv_if_ne (tgt := 147) hx hb dX5_write_141 (by decide) (fun c_141 => ?_) (fun c_141 => ?_)
                                  · skip
                                    refine lv_aload_n hx hb dX5_write_147 rfl (lv_at hl 2 rfl) ?_
                                    refine m_get3 F hi hl19 hK hw dX5_write_148 ?_
                                    refine lv_bipush (v := 40) hx hb dX5_write_151 (by decide) ?_
                                    refine lv_iload hx hb dX5_write_153 (lv_at hl 1 rfl) ?_
                                    refine lv_imul hx hb dX5_write_155 ?_
                                    refine lv_iload_n hx hb dX5_write_156 rfl (lv_at hl 4 rfl) ?_
                                    refine lv_iadd hx hb dX5_write_157 ?_
                                    refine lv_lload hx hb dX5_write_158 (lv_at hl 0 rfl) ?_
                                    obtain ⟨b9, k9, g1, g2, g3, g4, -⟩ := inSign hd hz hq_6 c_25 c_58 c_69
                                    refine m_st3 F hK hw (in40v g1 g2 g3 g4) dX5_write_160 (fun H locs hw => ?_)
                                    refine lv_iconst (v := 0) hx hb dX5_write_161 (by decide) ?_
                                    exact ct_iret hx hb hr (vp_nar_int _) hlocks hK hw dX5_write_162 (Nat.le_of_ble_eq_true rfl) (Nat.le_of_ble_eq_true rfl) (Or.inr (Or.inr (Or.inr (Or.inr (Or.inr ⟨hq_6, c_25, (fun _ => ⟨c_38, c_43⟩), ⟨c_58, c_69⟩, (fun _ => by rw [← ev9]; exact hq_138), rfl, by rw [ev9]⟩)))))
                                  · exact absurd c_141 (by decide)
                                · skip
                                  refine lv_if_ne (tgt := 147) hx hb dX5_write_141 (by decide) (fun c_141 => ?_) (fun c_141 => ?_)
                                  · exact absurd rfl c_141
                                  · skip
                                    refine lv_bipush (v := -10) hx hb dX5_write_144 (by decide) ?_
                                    exact ct_iret hx hb hr (vp_nar_int _) hlocks hK hw dX5_write_146 (Nat.le_of_ble_eq_true rfl) (Nat.le_of_ble_eq_true rfl) (Or.inr (Or.inr (Or.inr (Or.inr (Or.inl ⟨hq_6, c_25, (fun _ => ⟨c_38, c_43⟩), ⟨c_58, c_69⟩, ⟨hq_127, by rw [← ev9]; exact hq_138⟩, rfl, rfl⟩)))))
                            · skip
                              refine lv_if_eq (tgt := 147) hx hb dX5_write_130 (by decide) (fun c_130 => ?_) (fun c_130 => ?_)
                              · skip
                                refine lv_aload_n hx hb dX5_write_147 rfl (lv_at hl 2 rfl) ?_
                                refine m_get3 F hi hl19 hK hw dX5_write_148 ?_
                                refine lv_bipush (v := 40) hx hb dX5_write_151 (by decide) ?_
                                refine lv_iload hx hb dX5_write_153 (lv_at hl 1 rfl) ?_
                                refine lv_imul hx hb dX5_write_155 ?_
                                refine lv_iload_n hx hb dX5_write_156 rfl (lv_at hl 4 rfl) ?_
                                refine lv_iadd hx hb dX5_write_157 ?_
                                refine lv_lload hx hb dX5_write_158 (lv_at hl 0 rfl) ?_
                                obtain ⟨b9, k9, g1, g2, g3, g4, -⟩ := inSign hd hz hq_6 c_25 c_58 c_69
                                refine m_st3 F hK hw (in40v g1 g2 g3 g4) dX5_write_160 (fun H locs hw => ?_)
                                refine lv_iconst (v := 0) hx hb dX5_write_161 (by decide) ?_
                                exact ct_iret hx hb hr (vp_nar_int _) hlocks hK hw dX5_write_162 (Nat.le_of_ble_eq_true rfl) (Nat.le_of_ble_eq_true rfl) (Or.inr (Or.inr (Or.inr (Or.inr (Or.inr ⟨hq_6, c_25, (fun _ => ⟨c_38, c_43⟩), ⟨c_58, c_69⟩, (fun h => absurd h hq_127), rfl, by rw [ev9]⟩)))))
                              · exact absurd rfl c_130
                        · exact absurd c_81 (by decide)
                      · skip
                        refine lv_if_ne (tgt := 99) hx hb dX5_write_81 (by decide) (fun c_81 => ?_) (fun c_81 => ?_)
                        · exact absurd rfl c_81
                        · skip
                          refine lv_aload_n hx hb dX5_write_84 rfl (lv_at hl 1 rfl) ?_
                          refine m_get1 F hi hl13 hK hw dX5_write_85 ?_
                          refine lv_iload hx hb dX5_write_88 (lv_at hl 0 rfl) ?_
                          refine m_ld1 F hK hw (hd.pos hq_6 c_25).in dX5_write_90 ?_
                          refine lv_lload hx hb dX5_write_91 (lv_at hl 5 rfl) ?_
                          refine (c_m_cut l G Y x ad _ _ _ _ _ _ _ _ _ _ _ _ _ (hk0 hq_78)).callS F (va_cwS 2 hts gX5_write_X5_cut rfl rfl rfl (by decide +kernel) ⟨Nat.le_of_ble_eq_true rfl, Nat.le_of_ble_eq_true rfl⟩) hK hw hA rfl rfl hl.1 (Nat.le_of_ble_eq_true rfl) dX5_write_93 ⟨Nat.le_of_ble_eq_true rfl, Nat.le_of_ble_eq_true rfl⟩ (fun r_93 u_93 H locs hp_93 hw => ?_)
                          obtain ⟨rfl, rfl⟩ := hp_93
                          refine lv_goto (tgt := 122) hx hb dX5_write_96 (by decide) ?_
                          refine lv_topl (fun v9 ev9 => ?_)
                          have ev9 : v9 = mSgn (sc (cl (d (cl p0)))) p2 v0 := ev9.trans (by unfold mSgn; rw [if_neg hq_78])
                          refine lv_lstore (lv' := [(7, .long _), (6, .int _), (0, .ref _), (1, .int _), (2, .int _), (3, .int _), (4, .long _)]) hx hb dX5_write_122 hl (by decide) rfl (fun ls hl => ?_)
                          refine lv_aload_n hx hb dX5_write_124 rfl (lv_at hl 2 rfl) ?_
                          refine lv_iload hx hb dX5_write_125 (lv_at hl 1 rfl) ?_
                          refine (c_m_isPictures l G Y x ad _ _ _ _ _ _ _ _ _ _ _ _ (hd.pos hq_6 c_25)).callV F (cwV 1 hts gX5_write_X5_isPictures rfl rfl rfl (by decide +kernel) ⟨Nat.le_of_ble_eq_true rfl, Nat.le_of_ble_eq_true rfl⟩) hK hw hA (m_recv hK hw) rfl rfl hl.1 (Nat.le_of_ble_eq_true rfl) dX5_write_127 ⟨Nat.le_of_ble_eq_true rfl, Nat.le_of_ble_eq_true rfl⟩ (fun r_127 u_127 H locs hp_127 hw => ?_)
                          obtain ⟨rfl, ⟨hq_127, rfl⟩ | ⟨hq_127, rfl⟩⟩ := hp_127
                          · skip
                            refine lv_if_eq (tgt := 147) hx hb dX5_write_130 (by decide) (fun c_130 => ?_) (fun c_130 => ?_)
                            · exact absurd c_130 (by decide)
                            · skip
                              refine lv_aload_n hx hb dX5_write_133 rfl (lv_at hl 2 rfl) ?_
                              refine lv_iload hx hb dX5_write_134 (lv_at hl 1 rfl) ?_
                              refine lv_lload hx hb dX5_write_136 (lv_at hl 0 rfl) ?_
                              refine (c_m_may l G Y x ad _ _ _ _ _ _ _ _ _ _ _ _ _ (hd.pos hq_6 c_25)).callV F (cwV 2 hts gX5_write_X5_may rfl rfl rfl (by decide +kernel) ⟨Nat.le_of_ble_eq_true rfl, Nat.le_of_ble_eq_true rfl⟩) hK hw hA (m_recv hK hw) rfl rfl hl.1 (Nat.le_of_ble_eq_true rfl) dX5_write_138 ⟨Nat.le_of_ble_eq_true rfl, Nat.le_of_ble_eq_true rfl⟩ (fun r_138 u_138 H locs hp_138 hw => ?_)
                              obtain ⟨rfl, ⟨hq_138, rfl⟩ | ⟨hq_138, rfl⟩⟩ := hp_138
                              · skip
                                refine lv_if_ne (tgt := 147) hx hb dX5_write_141 (by decide) (fun c_141 => ?_) (fun c_141 => ?_)
                                · skip
                                  refine lv_aload_n hx hb dX5_write_147 rfl (lv_at hl 2 rfl) ?_
                                  refine m_get3 F hi hl19 hK hw dX5_write_148 ?_
                                  refine lv_bipush (v := 40) hx hb dX5_write_151 (by decide) ?_
                                  refine lv_iload hx hb dX5_write_153 (lv_at hl 1 rfl) ?_
                                  refine lv_imul hx hb dX5_write_155 ?_
                                  refine lv_iload_n hx hb dX5_write_156 rfl (lv_at hl 4 rfl) ?_
                                  refine lv_iadd hx hb dX5_write_157 ?_
                                  refine lv_lload hx hb dX5_write_158 (lv_at hl 0 rfl) ?_
                                  obtain ⟨b9, k9, g1, g2, g3, g4, -⟩ := inSign hd hz hq_6 c_25 c_58 c_69
                                  refine m_st3 F hK hw (in40v g1 g2 g3 g4) dX5_write_160 (fun H locs hw => ?_)
                                  refine lv_iconst (v := 0) hx hb dX5_write_161 (by decide) ?_
                                  exact ct_iret hx hb hr (vp_nar_int _) hlocks hK hw dX5_write_162 (Nat.le_of_ble_eq_true rfl) (Nat.le_of_ble_eq_true rfl) (Or.inr (Or.inr (Or.inr (Or.inr (Or.inr ⟨hq_6, c_25, (fun _ => ⟨c_38, c_43⟩), ⟨c_58, c_69⟩, (fun _ => by rw [← ev9]; exact hq_138), rfl, by rw [ev9]⟩)))))
                                · exact absurd c_141 (by decide)
                              · skip
                                refine lv_if_ne (tgt := 147) hx hb dX5_write_141 (by decide) (fun c_141 => ?_) (fun c_141 => ?_)
                                · exact absurd rfl c_141
                                · skip
                                  refine lv_bipush (v := -10) hx hb dX5_write_144 (by decide) ?_
                                  exact ct_iret hx hb hr (vp_nar_int _) hlocks hK hw dX5_write_146 (Nat.le_of_ble_eq_true rfl) (Nat.le_of_ble_eq_true rfl) (Or.inr (Or.inr (Or.inr (Or.inr (Or.inl ⟨hq_6, c_25, (fun _ => ⟨c_38, c_43⟩), ⟨c_58, c_69⟩, ⟨hq_127, by rw [← ev9]; exact hq_138⟩, rfl, rfl⟩)))))
                          · skip
                            refine lv_if_eq (tgt := 147) hx hb dX5_write_130 (by decide) (fun c_130 => ?_) (fun c_130 => ?_)
                            · skip
                              refine lv_aload_n hx hb dX5_write_147 rfl (lv_at hl 2 rfl) ?_
                              refine m_get3 F hi hl19 hK hw dX5_write_148 ?_
                              refine lv_bipush (v := 40) hx hb dX5_write_151 (by decide) ?_
                              refine lv_iload hx hb dX5_write_153 (lv_at hl 1 rfl) ?_
                              refine lv_imul hx hb dX5_write_155 ?_
                              refine lv_iload_n hx hb dX5_write_156 rfl (lv_at hl 4 rfl) ?_
                              refine lv_iadd hx hb dX5_write_157 ?_
                              refine lv_lload hx hb dX5_write_158 (lv_at hl 0 rfl) ?_
                              obtain ⟨b9, k9, g1, g2, g3, g4, -⟩ := inSign hd hz hq_6 c_25 c_58 c_69
                              refine m_st3 F hK hw (in40v g1 g2 g3 g4) dX5_write_160 (fun H locs hw => ?_)
                              refine lv_iconst (v := 0) hx hb dX5_write_161 (by decide) ?_
                              exact ct_iret hx hb hr (vp_nar_int _) hlocks hK hw dX5_write_162 (Nat.le_of_ble_eq_true rfl) (Nat.le_of_ble_eq_true rfl) (Or.inr (Or.inr (Or.inr (Or.inr (Or.inr ⟨hq_6, c_25, (fun _ => ⟨c_38, c_43⟩), ⟨c_58, c_69⟩, (fun h => absurd h hq_127), rfl, by rw [ev9]⟩)))))
                            · exact absurd rfl c_130
                    · skip
                      refine lv_bipush (v := -3) hx hb dX5_write_72 (by decide) ?_
                      exact ct_iret hx hb hr (vp_nar_int _) hlocks hK hw dX5_write_74 (Nat.le_of_ble_eq_true rfl) (Nat.le_of_ble_eq_true rfl) (Or.inr (Or.inr (Or.inr (Or.inl ⟨hq_6, c_25, (fun _ => ⟨c_38, c_43⟩), fun h => c_69 h.2, rfl, rfl⟩))))
                · exact absurd (Int32.not_lt.mp c_25) c_51
              · skip
                refine lv_bipush (v := -99) hx hb dX5_write_46 (by decide) ?_
                exact ct_iret hx hb hr (vp_nar_int _) hlocks hK hw dX5_write_48 (Nat.le_of_ble_eq_true rfl) (Nat.le_of_ble_eq_true rfl) (Or.inr (Or.inl ⟨hq_6, ⟨c_25, hq_31, fun h => c_43 h.2⟩, rfl, rfl⟩))
        · skip
          refine lv_if_eq (tgt := 49) hx hb dX5_write_34 (by decide) (fun c_34 => ?_) (fun c_34 => ?_)
          · skip
            refine lv_iload hx hb dX5_write_49 (lv_at hl 0 rfl) ?_
            refine lv_if_ge (tgt := 57) hx hb dX5_write_51 (by decide) (fun c_51 => ?_) (fun c_51 => ?_)
            · skip
              refine lv_iload_n hx hb dX5_write_57 rfl (lv_at hl 3 rfl) ?_
              refine lv_if_lt (tgt := 72) hx hb dX5_write_58 (by decide) (fun c_58 => ?_) (fun c_58 => ?_)
              · skip
                refine lv_bipush (v := -3) hx hb dX5_write_72 (by decide) ?_
                exact ct_iret hx hb hr (vp_nar_int _) hlocks hK hw dX5_write_74 (Nat.le_of_ble_eq_true rfl) (Nat.le_of_ble_eq_true rfl) (Or.inr (Or.inr (Or.inr (Or.inl ⟨hq_6, c_25, (fun h9 => absurd h9 hq_31), fun h => h.1 c_58, rfl, rfl⟩))))
              · skip
                refine lv_iload_n hx hb dX5_write_61 rfl (lv_at hl 3 rfl) ?_
                refine lv_aload_n hx hb dX5_write_62 rfl (lv_at hl 1 rfl) ?_
                refine m_get2 F hi hl16 hK hw dX5_write_63 ?_
                refine lv_iload hx hb dX5_write_66 (lv_at hl 0 rfl) ?_
                refine m_ld2 F hK hw (hd.pos hq_6 c_25).in dX5_write_68 ?_
                refine lv_icmp_lt (tgt := 75) hx hb dX5_write_69 (by decide) (fun c_69 => ?_) (fun c_69 => ?_)
                · skip
                  refine lv_aload_n hx hb dX5_write_75 rfl (lv_at hl 1 rfl) ?_
                  refine lv_iload hx hb dX5_write_76 (lv_at hl 0 rfl) ?_
                  refine (c_m_isPictures l G Y x ad _ _ _ _ _ _ _ _ _ _ _ _ (hd.pos hq_6 c_25)).callV F (cwV 1 hts gX5_write_X5_isPictures rfl rfl rfl (by decide +kernel) ⟨Nat.le_of_ble_eq_true rfl, Nat.le_of_ble_eq_true rfl⟩) hK hw hA (m_recv hK hw) rfl rfl hl.1 (Nat.le_of_ble_eq_true rfl) dX5_write_78 ⟨Nat.le_of_ble_eq_true rfl, Nat.le_of_ble_eq_true rfl⟩ (fun r_78 u_78 H locs hp_78 hw => ?_)
                  obtain ⟨rfl, ⟨hq_78, rfl⟩ | ⟨hq_78, rfl⟩⟩ := hp_78
                  · skip
                    refine lv_if_ne (tgt := 99) hx hb dX5_write_81 (by decide) (fun c_81 => ?_) (fun c_81 => ?_)
                    · skip
                      refine lv_iload_n hx hb dX5_write_99 rfl (lv_at hl 4 rfl) ?_
                      refine lv_if_ne (tgt := 107) hx hb dX5_write_100 (by decide) (fun c_100 => ?_) (fun c_100 => ?_)
                      · skip
                        refine lv_ldc2 hx hb hown (hts (.constantLong RX5 64 (4)) (by decide +kernel)) dX5_write_107 ?_
                        refine lv_lload hx hb dX5_write_110 (lv_at hl 5 rfl) ?_
                        refine lv_bipush (v := 32) hx hb dX5_write_112 (by decide) ?_
                        refine lv_lshl hx hb dX5_write_114 rfl ?_
                        refine lv_bipush (v := 32) hx hb dX5_write_115 (by decide) ?_
                        refine lv_lshr hx hb dX5_write_117 rfl ?_
                        refine lv_lmul hx hb dX5_write_118 ?_
                        refine lv_iload_n hx hb dX5_write_119 rfl (lv_at hl 4 rfl) ?_
                        refine lv_i2l hx hb dX5_write_120 rfl ?_
                        refine lv_ladd hx hb dX5_write_121 ?_
                        refine lv_topl (fun v9 ev9 => ?_)
                        have ev9 : v9 = mSgn (sc (cl (d (cl p0)))) p2 v0 := ev9.trans (by unfold mSgn; rw [if_pos hq_78, if_neg c_100]; rfl)
                        refine lv_lstore (lv' := [(7, .long _), (6, .int _), (0, .ref _), (1, .int _), (2, .int _), (3, .int _), (4, .long _)]) hx hb dX5_write_122 hl (by decide) rfl (fun ls hl => ?_)
                        refine lv_aload_n hx hb dX5_write_124 rfl (lv_at hl 2 rfl) ?_
                        refine lv_iload hx hb dX5_write_125 (lv_at hl 1 rfl) ?_
                        refine (c_m_isPictures l G Y x ad _ _ _ _ _ _ _ _ _ _ _ _ (hd.pos hq_6 c_25)).callV F (cwV 1 hts gX5_write_X5_isPictures rfl rfl rfl (by decide +kernel) ⟨Nat.le_of_ble_eq_true rfl, Nat.le_of_ble_eq_true rfl⟩) hK hw hA (m_recv hK hw) rfl rfl hl.1 (Nat.le_of_ble_eq_true rfl) dX5_write_127 ⟨Nat.le_of_ble_eq_true rfl, Nat.le_of_ble_eq_true rfl⟩ (fun r_127 u_127 H locs hp_127 hw => ?_)
                        obtain ⟨rfl, ⟨hq_127, rfl⟩ | ⟨hq_127, rfl⟩⟩ := hp_127
                        · skip
                          refine lv_if_eq (tgt := 147) hx hb dX5_write_130 (by decide) (fun c_130 => ?_) (fun c_130 => ?_)
                          · exact absurd c_130 (by decide)
                          · skip
                            refine lv_aload_n hx hb dX5_write_133 rfl (lv_at hl 2 rfl) ?_
                            refine lv_iload hx hb dX5_write_134 (lv_at hl 1 rfl) ?_
                            refine lv_lload hx hb dX5_write_136 (lv_at hl 0 rfl) ?_
                            refine (c_m_may l G Y x ad _ _ _ _ _ _ _ _ _ _ _ _ _ (hd.pos hq_6 c_25)).callV F (cwV 2 hts gX5_write_X5_may rfl rfl rfl (by decide +kernel) ⟨Nat.le_of_ble_eq_true rfl, Nat.le_of_ble_eq_true rfl⟩) hK hw hA (m_recv hK hw) rfl rfl hl.1 (Nat.le_of_ble_eq_true rfl) dX5_write_138 ⟨Nat.le_of_ble_eq_true rfl, Nat.le_of_ble_eq_true rfl⟩ (fun r_138 u_138 H locs hp_138 hw => ?_)
                            obtain ⟨rfl, ⟨hq_138, rfl⟩ | ⟨hq_138, rfl⟩⟩ := hp_138
                            · skip
                              refine lv_if_ne (tgt := 147) hx hb dX5_write_141 (by decide) (fun c_141 => ?_) (fun c_141 => ?_)
                              · skip
                                refine lv_aload_n hx hb dX5_write_147 rfl (lv_at hl 2 rfl) ?_
                                refine m_get3 F hi hl19 hK hw dX5_write_148 ?_
                                refine lv_bipush (v := 40) hx hb dX5_write_151 (by decide) ?_
                                refine lv_iload hx hb dX5_write_153 (lv_at hl 1 rfl) ?_
                                refine lv_imul hx hb dX5_write_155 ?_
                                refine lv_iload_n hx hb dX5_write_156 rfl (lv_at hl 4 rfl) ?_
                                refine lv_iadd hx hb dX5_write_157 ?_
                                refine lv_lload hx hb dX5_write_158 (lv_at hl 0 rfl) ?_
                                obtain ⟨b9, k9, g1, g2, g3, g4, -⟩ := inSign hd hz hq_6 c_25 c_58 c_69
                                refine m_st3 F hK hw (in40v g1 g2 g3 g4) dX5_write_160 (fun H locs hw => ?_)
                                refine lv_iconst (v := 0) hx hb dX5_write_161 (by decide) ?_
                                exact ct_iret hx hb hr (vp_nar_int _) hlocks hK hw dX5_write_162 (Nat.le_of_ble_eq_true rfl) (Nat.le_of_ble_eq_true rfl) (Or.inr (Or.inr (Or.inr (Or.inr (Or.inr ⟨hq_6, c_25, (fun h9 => absurd h9 hq_31), ⟨c_58, c_69⟩, (fun _ => by rw [← ev9]; exact hq_138), rfl, by rw [ev9]⟩)))))
                              · exact absurd c_141 (by decide)
                            · skip
                              refine lv_if_ne (tgt := 147) hx hb dX5_write_141 (by decide) (fun c_141 => ?_) (fun c_141 => ?_)
                              · exact absurd rfl c_141
                              · skip
                                refine lv_bipush (v := -10) hx hb dX5_write_144 (by decide) ?_
                                exact ct_iret hx hb hr (vp_nar_int _) hlocks hK hw dX5_write_146 (Nat.le_of_ble_eq_true rfl) (Nat.le_of_ble_eq_true rfl) (Or.inr (Or.inr (Or.inr (Or.inr (Or.inl ⟨hq_6, c_25, (fun h9 => absurd h9 hq_31), ⟨c_58, c_69⟩, ⟨hq_127, by rw [← ev9]; exact hq_138⟩, rfl, rfl⟩)))))
                        · skip
                          refine lv_if_eq (tgt := 147) hx hb dX5_write_130 (by decide) (fun c_130 => ?_) (fun c_130 => ?_)
                          · skip
                            refine lv_aload_n hx hb dX5_write_147 rfl (lv_at hl 2 rfl) ?_
                            refine m_get3 F hi hl19 hK hw dX5_write_148 ?_
                            refine lv_bipush (v := 40) hx hb dX5_write_151 (by decide) ?_
                            refine lv_iload hx hb dX5_write_153 (lv_at hl 1 rfl) ?_
                            refine lv_imul hx hb dX5_write_155 ?_
                            refine lv_iload_n hx hb dX5_write_156 rfl (lv_at hl 4 rfl) ?_
                            refine lv_iadd hx hb dX5_write_157 ?_
                            refine lv_lload hx hb dX5_write_158 (lv_at hl 0 rfl) ?_
                            obtain ⟨b9, k9, g1, g2, g3, g4, -⟩ := inSign hd hz hq_6 c_25 c_58 c_69
                            refine m_st3 F hK hw (in40v g1 g2 g3 g4) dX5_write_160 (fun H locs hw => ?_)
                            refine lv_iconst (v := 0) hx hb dX5_write_161 (by decide) ?_
                            exact ct_iret hx hb hr (vp_nar_int _) hlocks hK hw dX5_write_162 (Nat.le_of_ble_eq_true rfl) (Nat.le_of_ble_eq_true rfl) (Or.inr (Or.inr (Or.inr (Or.inr (Or.inr ⟨hq_6, c_25, (fun h9 => absurd h9 hq_31), ⟨c_58, c_69⟩, (fun h => absurd h hq_127), rfl, by rw [ev9]⟩)))))
                          · exact absurd rfl c_130
                      · skip
                        refine lv_lconst (v := 0) hx hb dX5_write_103 (by decide) ?_
                        refine lv_goto (tgt := 122) hx hb dX5_write_104 (by decide) ?_
                        refine lv_topl (fun v9 ev9 => ?_)
                        have ev9 : v9 = mSgn (sc (cl (d (cl p0)))) p2 v0 := ev9.trans (by unfold mSgn; rw [if_pos hq_78, if_pos c_100])
                        refine lv_lstore (lv' := [(7, .long _), (6, .int _), (0, .ref _), (1, .int _), (2, .int _), (3, .int _), (4, .long _)]) hx hb dX5_write_122 hl (by decide) rfl (fun ls hl => ?_)
                        refine lv_aload_n hx hb dX5_write_124 rfl (lv_at hl 2 rfl) ?_
                        refine lv_iload hx hb dX5_write_125 (lv_at hl 1 rfl) ?_
                        refine (c_m_isPictures l G Y x ad _ _ _ _ _ _ _ _ _ _ _ _ (hd.pos hq_6 c_25)).callV F (cwV 1 hts gX5_write_X5_isPictures rfl rfl rfl (by decide +kernel) ⟨Nat.le_of_ble_eq_true rfl, Nat.le_of_ble_eq_true rfl⟩) hK hw hA (m_recv hK hw) rfl rfl hl.1 (Nat.le_of_ble_eq_true rfl) dX5_write_127 ⟨Nat.le_of_ble_eq_true rfl, Nat.le_of_ble_eq_true rfl⟩ (fun r_127 u_127 H locs hp_127 hw => ?_)
                        obtain ⟨rfl, ⟨hq_127, rfl⟩ | ⟨hq_127, rfl⟩⟩ := hp_127
                        · skip
                          refine lv_if_eq (tgt := 147) hx hb dX5_write_130 (by decide) (fun c_130 => ?_) (fun c_130 => ?_)
                          · exact absurd c_130 (by decide)
                          · skip
                            refine lv_aload_n hx hb dX5_write_133 rfl (lv_at hl 2 rfl) ?_
                            refine lv_iload hx hb dX5_write_134 (lv_at hl 1 rfl) ?_
                            refine lv_lload hx hb dX5_write_136 (lv_at hl 0 rfl) ?_
                            refine (c_m_may l G Y x ad _ _ _ _ _ _ _ _ _ _ _ _ _ (hd.pos hq_6 c_25)).callV F (cwV 2 hts gX5_write_X5_may rfl rfl rfl (by decide +kernel) ⟨Nat.le_of_ble_eq_true rfl, Nat.le_of_ble_eq_true rfl⟩) hK hw hA (m_recv hK hw) rfl rfl hl.1 (Nat.le_of_ble_eq_true rfl) dX5_write_138 ⟨Nat.le_of_ble_eq_true rfl, Nat.le_of_ble_eq_true rfl⟩ (fun r_138 u_138 H locs hp_138 hw => ?_)
                            obtain ⟨rfl, ⟨hq_138, rfl⟩ | ⟨hq_138, rfl⟩⟩ := hp_138
                            · skip
                              refine lv_if_ne (tgt := 147) hx hb dX5_write_141 (by decide) (fun c_141 => ?_) (fun c_141 => ?_)
                              · skip
                                refine lv_aload_n hx hb dX5_write_147 rfl (lv_at hl 2 rfl) ?_
                                refine m_get3 F hi hl19 hK hw dX5_write_148 ?_
                                refine lv_bipush (v := 40) hx hb dX5_write_151 (by decide) ?_
                                refine lv_iload hx hb dX5_write_153 (lv_at hl 1 rfl) ?_
                                refine lv_imul hx hb dX5_write_155 ?_
                                refine lv_iload_n hx hb dX5_write_156 rfl (lv_at hl 4 rfl) ?_
                                refine lv_iadd hx hb dX5_write_157 ?_
                                refine lv_lload hx hb dX5_write_158 (lv_at hl 0 rfl) ?_
                                obtain ⟨b9, k9, g1, g2, g3, g4, -⟩ := inSign hd hz hq_6 c_25 c_58 c_69
                                refine m_st3 F hK hw (in40v g1 g2 g3 g4) dX5_write_160 (fun H locs hw => ?_)
                                refine lv_iconst (v := 0) hx hb dX5_write_161 (by decide) ?_
                                exact ct_iret hx hb hr (vp_nar_int _) hlocks hK hw dX5_write_162 (Nat.le_of_ble_eq_true rfl) (Nat.le_of_ble_eq_true rfl) (Or.inr (Or.inr (Or.inr (Or.inr (Or.inr ⟨hq_6, c_25, (fun h9 => absurd h9 hq_31), ⟨c_58, c_69⟩, (fun _ => by rw [← ev9]; exact hq_138), rfl, by rw [ev9]⟩)))))
                              · exact absurd c_141 (by decide)
                            · skip
                              refine lv_if_ne (tgt := 147) hx hb dX5_write_141 (by decide) (fun c_141 => ?_) (fun c_141 => ?_)
                              · exact absurd rfl c_141
                              · skip
                                refine lv_bipush (v := -10) hx hb dX5_write_144 (by decide) ?_
                                exact ct_iret hx hb hr (vp_nar_int _) hlocks hK hw dX5_write_146 (Nat.le_of_ble_eq_true rfl) (Nat.le_of_ble_eq_true rfl) (Or.inr (Or.inr (Or.inr (Or.inr (Or.inl ⟨hq_6, c_25, (fun h9 => absurd h9 hq_31), ⟨c_58, c_69⟩, ⟨hq_127, by rw [← ev9]; exact hq_138⟩, rfl, rfl⟩)))))
                        · skip
                          refine lv_if_eq (tgt := 147) hx hb dX5_write_130 (by decide) (fun c_130 => ?_) (fun c_130 => ?_)
                          · skip
                            refine lv_aload_n hx hb dX5_write_147 rfl (lv_at hl 2 rfl) ?_
                            refine m_get3 F hi hl19 hK hw dX5_write_148 ?_
                            refine lv_bipush (v := 40) hx hb dX5_write_151 (by decide) ?_
                            refine lv_iload hx hb dX5_write_153 (lv_at hl 1 rfl) ?_
                            refine lv_imul hx hb dX5_write_155 ?_
                            refine lv_iload_n hx hb dX5_write_156 rfl (lv_at hl 4 rfl) ?_
                            refine lv_iadd hx hb dX5_write_157 ?_
                            refine lv_lload hx hb dX5_write_158 (lv_at hl 0 rfl) ?_
                            obtain ⟨b9, k9, g1, g2, g3, g4, -⟩ := inSign hd hz hq_6 c_25 c_58 c_69
                            refine m_st3 F hK hw (in40v g1 g2 g3 g4) dX5_write_160 (fun H locs hw => ?_)
                            refine lv_iconst (v := 0) hx hb dX5_write_161 (by decide) ?_
                            exact ct_iret hx hb hr (vp_nar_int _) hlocks hK hw dX5_write_162 (Nat.le_of_ble_eq_true rfl) (Nat.le_of_ble_eq_true rfl) (Or.inr (Or.inr (Or.inr (Or.inr (Or.inr ⟨hq_6, c_25, (fun h9 => absurd h9 hq_31), ⟨c_58, c_69⟩, (fun h => absurd h hq_127), rfl, by rw [ev9]⟩)))))
                          · exact absurd rfl c_130
                    · exact absurd c_81 (by decide)
                  · skip
                    refine lv_if_ne (tgt := 99) hx hb dX5_write_81 (by decide) (fun c_81 => ?_) (fun c_81 => ?_)
                    · exact absurd rfl c_81
                    · skip
                      refine lv_aload_n hx hb dX5_write_84 rfl (lv_at hl 1 rfl) ?_
                      refine m_get1 F hi hl13 hK hw dX5_write_85 ?_
                      refine lv_iload hx hb dX5_write_88 (lv_at hl 0 rfl) ?_
                      refine m_ld1 F hK hw (hd.pos hq_6 c_25).in dX5_write_90 ?_
                      refine lv_lload hx hb dX5_write_91 (lv_at hl 5 rfl) ?_
                      refine (c_m_cut l G Y x ad _ _ _ _ _ _ _ _ _ _ _ _ _ (hk0 hq_78)).callS F (va_cwS 2 hts gX5_write_X5_cut rfl rfl rfl (by decide +kernel) ⟨Nat.le_of_ble_eq_true rfl, Nat.le_of_ble_eq_true rfl⟩) hK hw hA rfl rfl hl.1 (Nat.le_of_ble_eq_true rfl) dX5_write_93 ⟨Nat.le_of_ble_eq_true rfl, Nat.le_of_ble_eq_true rfl⟩ (fun r_93 u_93 H locs hp_93 hw => ?_)
                      obtain ⟨rfl, rfl⟩ := hp_93
                      refine lv_goto (tgt := 122) hx hb dX5_write_96 (by decide) ?_
                      refine lv_topl (fun v9 ev9 => ?_)
                      have ev9 : v9 = mSgn (sc (cl (d (cl p0)))) p2 v0 := ev9.trans (by unfold mSgn; rw [if_neg hq_78])
                      refine lv_lstore (lv' := [(7, .long _), (6, .int _), (0, .ref _), (1, .int _), (2, .int _), (3, .int _), (4, .long _)]) hx hb dX5_write_122 hl (by decide) rfl (fun ls hl => ?_)
                      refine lv_aload_n hx hb dX5_write_124 rfl (lv_at hl 2 rfl) ?_
                      refine lv_iload hx hb dX5_write_125 (lv_at hl 1 rfl) ?_
                      refine (c_m_isPictures l G Y x ad _ _ _ _ _ _ _ _ _ _ _ _ (hd.pos hq_6 c_25)).callV F (cwV 1 hts gX5_write_X5_isPictures rfl rfl rfl (by decide +kernel) ⟨Nat.le_of_ble_eq_true rfl, Nat.le_of_ble_eq_true rfl⟩) hK hw hA (m_recv hK hw) rfl rfl hl.1 (Nat.le_of_ble_eq_true rfl) dX5_write_127 ⟨Nat.le_of_ble_eq_true rfl, Nat.le_of_ble_eq_true rfl⟩ (fun r_127 u_127 H locs hp_127 hw => ?_)
                      obtain ⟨rfl, ⟨hq_127, rfl⟩ | ⟨hq_127, rfl⟩⟩ := hp_127
                      · skip
                        refine lv_if_eq (tgt := 147) hx hb dX5_write_130 (by decide) (fun c_130 => ?_) (fun c_130 => ?_)
                        · exact absurd c_130 (by decide)
                        · skip
                          refine lv_aload_n hx hb dX5_write_133 rfl (lv_at hl 2 rfl) ?_
                          refine lv_iload hx hb dX5_write_134 (lv_at hl 1 rfl) ?_
                          refine lv_lload hx hb dX5_write_136 (lv_at hl 0 rfl) ?_
                          refine (c_m_may l G Y x ad _ _ _ _ _ _ _ _ _ _ _ _ _ (hd.pos hq_6 c_25)).callV F (cwV 2 hts gX5_write_X5_may rfl rfl rfl (by decide +kernel) ⟨Nat.le_of_ble_eq_true rfl, Nat.le_of_ble_eq_true rfl⟩) hK hw hA (m_recv hK hw) rfl rfl hl.1 (Nat.le_of_ble_eq_true rfl) dX5_write_138 ⟨Nat.le_of_ble_eq_true rfl, Nat.le_of_ble_eq_true rfl⟩ (fun r_138 u_138 H locs hp_138 hw => ?_)
                          obtain ⟨rfl, ⟨hq_138, rfl⟩ | ⟨hq_138, rfl⟩⟩ := hp_138
                          · skip
                            refine lv_if_ne (tgt := 147) hx hb dX5_write_141 (by decide) (fun c_141 => ?_) (fun c_141 => ?_)
                            · skip
                              refine lv_aload_n hx hb dX5_write_147 rfl (lv_at hl 2 rfl) ?_
                              refine m_get3 F hi hl19 hK hw dX5_write_148 ?_
                              refine lv_bipush (v := 40) hx hb dX5_write_151 (by decide) ?_
                              refine lv_iload hx hb dX5_write_153 (lv_at hl 1 rfl) ?_
                              refine lv_imul hx hb dX5_write_155 ?_
                              refine lv_iload_n hx hb dX5_write_156 rfl (lv_at hl 4 rfl) ?_
                              refine lv_iadd hx hb dX5_write_157 ?_
                              refine lv_lload hx hb dX5_write_158 (lv_at hl 0 rfl) ?_
                              obtain ⟨b9, k9, g1, g2, g3, g4, -⟩ := inSign hd hz hq_6 c_25 c_58 c_69
                              refine m_st3 F hK hw (in40v g1 g2 g3 g4) dX5_write_160 (fun H locs hw => ?_)
                              refine lv_iconst (v := 0) hx hb dX5_write_161 (by decide) ?_
                              exact ct_iret hx hb hr (vp_nar_int _) hlocks hK hw dX5_write_162 (Nat.le_of_ble_eq_true rfl) (Nat.le_of_ble_eq_true rfl) (Or.inr (Or.inr (Or.inr (Or.inr (Or.inr ⟨hq_6, c_25, (fun h9 => absurd h9 hq_31), ⟨c_58, c_69⟩, (fun _ => by rw [← ev9]; exact hq_138), rfl, by rw [ev9]⟩)))))
                            · exact absurd c_141 (by decide)
                          · skip
                            refine lv_if_ne (tgt := 147) hx hb dX5_write_141 (by decide) (fun c_141 => ?_) (fun c_141 => ?_)
                            · exact absurd rfl c_141
                            · skip
                              refine lv_bipush (v := -10) hx hb dX5_write_144 (by decide) ?_
                              exact ct_iret hx hb hr (vp_nar_int _) hlocks hK hw dX5_write_146 (Nat.le_of_ble_eq_true rfl) (Nat.le_of_ble_eq_true rfl) (Or.inr (Or.inr (Or.inr (Or.inr (Or.inl ⟨hq_6, c_25, (fun h9 => absurd h9 hq_31), ⟨c_58, c_69⟩, ⟨hq_127, by rw [← ev9]; exact hq_138⟩, rfl, rfl⟩)))))
                      · skip
                        refine lv_if_eq (tgt := 147) hx hb dX5_write_130 (by decide) (fun c_130 => ?_) (fun c_130 => ?_)
                        · skip
                          refine lv_aload_n hx hb dX5_write_147 rfl (lv_at hl 2 rfl) ?_
                          refine m_get3 F hi hl19 hK hw dX5_write_148 ?_
                          refine lv_bipush (v := 40) hx hb dX5_write_151 (by decide) ?_
                          refine lv_iload hx hb dX5_write_153 (lv_at hl 1 rfl) ?_
                          refine lv_imul hx hb dX5_write_155 ?_
                          refine lv_iload_n hx hb dX5_write_156 rfl (lv_at hl 4 rfl) ?_
                          refine lv_iadd hx hb dX5_write_157 ?_
                          refine lv_lload hx hb dX5_write_158 (lv_at hl 0 rfl) ?_
                          obtain ⟨b9, k9, g1, g2, g3, g4, -⟩ := inSign hd hz hq_6 c_25 c_58 c_69
                          refine m_st3 F hK hw (in40v g1 g2 g3 g4) dX5_write_160 (fun H locs hw => ?_)
                          refine lv_iconst (v := 0) hx hb dX5_write_161 (by decide) ?_
                          exact ct_iret hx hb hr (vp_nar_int _) hlocks hK hw dX5_write_162 (Nat.le_of_ble_eq_true rfl) (Nat.le_of_ble_eq_true rfl) (Or.inr (Or.inr (Or.inr (Or.inr (Or.inr ⟨hq_6, c_25, (fun h9 => absurd h9 hq_31), ⟨c_58, c_69⟩, (fun h => absurd h hq_127), rfl, by rw [ev9]⟩)))))
                        · exact absurd rfl c_130
                · skip
                  refine lv_bipush (v := -3) hx hb dX5_write_72 (by decide) ?_
                  exact ct_iret hx hb hr (vp_nar_int _) hlocks hK hw dX5_write_74 (Nat.le_of_ble_eq_true rfl) (Nat.le_of_ble_eq_true rfl) (Or.inr (Or.inr (Or.inr (Or.inl ⟨hq_6, c_25, (fun h9 => absurd h9 hq_31), fun h => c_69 h.2, rfl, rfl⟩))))
            · exact absurd (Int32.not_lt.mp c_25) c_51
          · exact absurd rfl c_34
    · exact absurd c_9 (by decide)
  · skip
    refine lv_if_ne (tgt := 15) hx hb dX5_write_9 (by decide) (fun c_9 => ?_) (fun c_9 => ?_)
    · exact absurd rfl c_9
    · skip
      refine lv_bipush (v := -99) hx hb dX5_write_12 (by decide) ?_
      exact ct_iret hx hb hr (vp_nar_int _) hlocks hK hw dX5_write_14 (Nat.le_of_ble_eq_true rfl) (Nat.le_of_ble_eq_true rfl) (Or.inl ⟨hq_6, rfl, rfl⟩)
end
section
theorem lcmp0 {x y : Int64} : lg_cmp x y = 0 ↔ x = y := by
  unfold lg_cmp
  constructor
  · intro h
    by_cases h1 : y < x
    · rw [if_pos h1] at h; exact absurd h (by decide)
    · rw [if_neg h1] at h
      by_cases h2 : x < y
      · simp [h2] at h; exact h
      · exact Int64.le_antisymm (Int64.not_lt.mp h1) (Int64.not_lt.mp h2)
  · rintro rfl
    rw [if_neg (Int64.lt_irrefl)]
    simp
def mBindP (u : MS) (p0 p1 p2 : Int32) (r : Int32) (u' : MS) : Prop := match u with
  | (d, sc, sz, sg, ik, cp, wt, wa, ch, ct, _) =>
    ((isD p0 ∧ ¬ p1 < 0 ∧ ¬ 8 < p1 ∧ ¬ p2 < 0 ∧ p2 ≤ 40) ∧ r = 0 ∧ ∃ k : Nat, k < 6 ∧ ¬ mUsed d (nI k) p0 ∧ u' = (upd d (cl p0) (nI k), upd sc k p1, upd sz k p2, mZero sg k 40, ik, cp, wt, wa, ch, upd ct 7 (ct 7 + 1), 0)) ∨
    (¬ (isD p0 ∧ ¬ p1 < 0 ∧ ¬ 8 < p1 ∧ ¬ p2 < 0 ∧ p2 ≤ 40) ∧ r = -99 ∧ u' = (d, sc, sz, sg, ik, cp, wt, wa, ch, ct, 0))
def mDiff (sg : Nat → Int64) (b1 b2 n1 n2 : Nat) (r : Int32) : Prop :=
  (∃ k : Nat, k < n1 ∧ k < n2 ∧ (∀ j, j < k → sg (40 * b1 + j) = sg (40 * b2 + j)) ∧ ¬ sg (40 * b1 + k) = sg (40 * b2 + k) ∧ r = nI k) ∨
  ((∀ j, j < n1 → j < n2 → sg (40 * b1 + j) = sg (40 * b2 + j)) ∧ ((n1 = n2 ∧ r = -60) ∨ (n1 < n2 ∧ r = nI n1) ∨ (n2 < n1 ∧ r = nI n2)))
def mDifferP (u : MS) (p0 p1 : Int32) (r : Int32) (u' : MS) : Prop := match u with
  | (d, sc, sz, sg, ik, cp, wt, wa, ch, ct, _) => u' = (d, sc, sz, sg, ik, cp, wt, wa, ch, ct, 0) ∧
    ((¬ (isD p0 ∧ isD p1) ∧ r = -99) ∨ ((isD p0 ∧ isD p1) ∧ ¬ mUnl d sc p0 p1 = 0 ∧ r = mUnl d sc p0 p1) ∨
    ((isD p0 ∧ isD p1) ∧ mUnl d sc p0 p1 = 0 ∧ ∃ b1 b2 n1 n2 : Nat, b1 < 6 ∧ b2 < 6 ∧ d (cl p0) = nI b1 ∧ d (cl p1) = nI b2 ∧ sz b1 = nI n1 ∧ sz b2 = nI n2 ∧ n1 ≤ 40 ∧ n2 ≤ 40 ∧ mDiff sg b1 b2 n1 n2 r))
theorem le_of_c {a b : Nat} (ha : a < 2 ^ 31) (hb : b < 2 ^ 31) (h : nI a ≤ nI b) : a ≤ b := (nI_leI ha hb).mp h
theorem lt_of_c {a b : Nat} (ha : a < 2 ^ 31) (hb : b < 2 ^ 31) (h : ¬ nI a ≤ nI b) : b < a := by
  rw [nI_leI ha hb] at h; omega
/-- the loop that seeks the stop, from the passage's end down -/
def mSeek (sc : Nat → Int32) (sg : Nat → Int64) (bf bt ii nn kk st : Nat) : Prop := kk ≤ nn ∧ kk ≤ st ∧ st ≤ nn ∧ (∀ k, kk ≤ k → k < st → ¬ mBad sc sg bf bt ii k) ∧ (st < nn → mBad sc sg bf bt ii st)
theorem mSeek.keep {sc : Nat → Int32} {sg : Nat → Int64} {bf bt ii nn kk st : Nat} (h : mSeek sc sg bf bt ii nn (kk + 1) st) (hb : ¬ mBad sc sg bf bt ii kk) : mSeek sc sg bf bt ii nn kk st := by
  obtain ⟨h1, h2, h3, h4, h5⟩ := h
  refine ⟨by omega, by omega, h3, fun k hk hs => ?_, h5⟩
  rcases Nat.lt_or_ge kk k with q | q
  · exact h4 k (by omega) hs
  · rw [show k = kk by omega]; exact hb
theorem mSeek.stop {sc : Nat → Int32} {sg : Nat → Int64} {bf bt ii nn kk st : Nat} (h : mSeek sc sg bf bt ii nn (kk + 1) st) (hb : mBad sc sg bf bt ii kk) : mSeek sc sg bf bt ii nn kk kk := by
  obtain ⟨h1, h2, h3, h4, h5⟩ := h
  exact ⟨by omega, by omega, by omega, fun k hk hs => by omega, fun _ => hb⟩
theorem mSeek.done {sc : Nat → Int32} {sg : Nat → Int64} {bf bt ii nn st : Nat} (h : mSeek sc sg bf bt ii nn 0 st) : mStop sc sg bf bt ii nn st := ⟨h.2.2.1, fun k hk => h.2.2.2.1 k (Nat.zero_le k) hk, h.2.2.2.2⟩
theorem nI_m1_neg {kk : Nat} (hk : kk < 2 ^ 30) (h : nI kk - 1 < 0) : kk = 0 := by
  rcases kk with _ | k
  · rfl
  · rw [nI_pred] at h; exact absurd h (nI_pos (by omega))
theorem nI_m1_pos {kk : Nat} (h : ¬ nI kk - 1 < 0) : ∃ k, kk = k + 1 := by
  rcases kk with _ | k
  · exact absurd (by decide) h
  · exact ⟨k, rfl⟩
/-- what the copying loop has done behind k steps -/
def mPart (sg : Nat → Int64) (S D st k : Nat) (back : Int32) : Nat → Int64 := if back = 1 then mCpy sg S D (st - k) st else mCpy sg S D 0 k
theorem mPart_0 (sg : Nat → Int64) (S D st : Nat) (back : Int32) : mPart sg S D st 0 back = sg := by
  unfold mPart
  by_cases h : back = 1
  · rw [if_pos h]; exact mCpy_0 sg S D st
  · rw [if_neg h]; exact mCpy_0 sg S D 0
theorem mPart_st (sg : Nat → Int64) (S D st : Nat) (back : Int32) : mPart sg S D st st back = mCpy sg S D 0 st := by
  unfold mPart
  by_cases h : back = 1
  · rw [if_pos h, Nat.sub_self]
  · rw [if_neg h]
/-- a step of it: the sign that is read is as it was ahead of the passage -/
theorem mPart_read {sg : Nat → Int64} {bf bt ii jj st k : Nat} {back : Int32} (hi : ii + st ≤ 40) (hj : jj + st ≤ 40) (hk : k < st) (hb : (back = 1 ∧ bf = bt ∧ ii < jj) ∨ (back = 0 ∧ ¬ (bf = bt ∧ ii < jj))) :
    mPart sg (40 * bf + ii) (40 * bt + jj) st k back (40 * bf + ii + (if back = 1 then st - 1 - k else k)) = sg (40 * bf + ii + (if back = 1 then st - 1 - k else k)) := by
  unfold mPart
  rcases hb with ⟨rfl, rfl, h⟩ | ⟨rfl, h⟩
  · rw [if_pos rfl, if_pos rfl]
    exact mCpy_out sg (by omega)
  · rw [if_neg (by decide), if_neg (by decide)]
    apply mCpy_out
    by_cases he : bf = bt
    · subst he
      have : ¬ ii < jj := fun q => h ⟨rfl, q⟩
      omega
    · omega
theorem mPart_step {sg : Nat → Int64} {bf bt ii jj st k : Nat} {back : Int32} (hk : k < st) (hb : back = 1 ∨ back = 0) :
    vp_updL (mPart sg (40 * bf + ii) (40 * bt + jj) st k back) (40 * bt + jj + (if back = 1 then st - 1 - k else k)) (sg (40 * bf + ii + (if back = 1 then st - 1 - k else k))) = mPart sg (40 * bf + ii) (40 * bt + jj) st (k + 1) back := by
  unfold mPart
  rcases hb with rfl | rfl
  · rw [if_pos rfl, if_pos rfl, if_pos rfl]
    have h1 : st - k = (st - 1 - k) + 1 := by omega
    have h2 : st - (k + 1) = st - 1 - k := by omega
    rw [h1, h2]
    exact mCpy_dn sg _ _ _ _ (by omega)
  · rw [if_neg (by decide), if_neg (by decide), if_neg (by decide)]
    exact mCpy_up sg _ _ 0 k (by omega)
theorem mTal_in {r : Int32} (h : r = -1 ∨ r = -2 ∨ r = -3 ∨ (∃ k : Nat, k ≤ 40 ∧ r = nI k) ∨ (∃ k : Nat, k < 40 ∧ r = -10 - nI k)) : vp_in (mTal r) 8 := by
  rcases h with rfl | rfl | rfl | ⟨k, hk, rfl⟩ | ⟨k, hk, rfl⟩
  · exact vp_in_nI (n := 2) (by decide) (by decide)
  · exact vp_in_nI (n := 3) (by decide) (by decide)
  · exact vp_in_nI (n := 4) (by decide) (by decide)
  · unfold mTal; rw [if_pos (nI_pos (by omega))]; exact vp_in_nI (n := 1) (by decide) (by decide)
  · have h1 := (m10 ⟨k, by omega⟩).2
    unfold mTal
    rw [if_neg (fun q => q (Int32.lt_of_le_of_lt h1 (by decide))), if_pos h1]; exact vp_in_nI (n := 5) (by decide) (by decide)
end
section
set_option maxHeartbeats 4000000 in
set_option maxRecDepth 100000 in
theorem c_m_bind (l : Launch) (G : va_G) (Y : Nat → ClassId) (x : Nat) (ad : Nat → Nat) (d sc sz : Nat → Int32) (sg : Nat → Int64) (ik cp wt wa ch ct : Nat → Int32) (th : Int32) (p0 : Int32) (p1 : Int32) (p2 : Int32)  : ctI l G Y (mW Y x ad) yX5_bind wsX5_bind ({ frames := 1, cells := 0, slots := 0, locals := 60 }) [.ref x, .int p0, .int p1, .int p2] (d, sc, sz, sg, ik, cp, wt, wa, ch, ct, th) (fun r u' => mBindP (d, sc, sz, sg, ik, cp, wt, wa, ch, ct, th) p0 p1 p2 r u') := by
  refine ctI.of (cc := cX5_bind) (maxL := 6) (ret := (some .int)) (by decide) rfl (Nat.le_of_ble_eq_true rfl) ?_
  intro A p e s m below meth c ls hB
  obtain ⟨F, hr, hlocks, hnm, hK, hA, hw, hl⟩ := hB
  obtain ⟨hx, hb, hml, hown, hts⟩ := id F
  have hl : lv_has ls 6 [(0, .ref x), (1, .int p0), (2, .int p1), (3, .int p2)] := hl
  have hi : ∀ w ∈ wsX50, w ∈ wsX5_bind := by decide +kernel
  have hl7 : Cond.fieldLink RX5 7 "ScriptoriumModel" "desk" "[I" ∈ wsX5_bind := by decide +kernel
  have hl13 : Cond.fieldLink RX5 13 "ScriptoriumModel" "script" "[I" ∈ wsX5_bind := by decide +kernel
  have hl16 : Cond.fieldLink RX5 16 "ScriptoriumModel" "size" "[I" ∈ wsX5_bind := by decide +kernel
  have hl19 : Cond.fieldLink RX5 19 "ScriptoriumModel" "sign" "[J" ∈ wsX5_bind := by decide +kernel
  have hl38 : Cond.fieldLink RX5 38 "ScriptoriumModel" "counts" "[I" ∈ wsX5_bind := by decide +kernel
  have hl41 : Cond.fieldLink RX5 41 "ScriptoriumModel" "thrown" "I" ∈ wsX5_bind := by decide +kernel
  refine lv_aload_n hx hb dX5_bind_0 rfl (lv_at hl 0 rfl) ?_
  refine lv_iconst (v := 0) hx hb dX5_bind_1 (by decide) ?_
  refine m_put10 F hi hl41 hK hw dX5_bind_2 (fun H locs hw => ?_)
  refine lv_iload_n hx hb dX5_bind_5 rfl (lv_at hl 1 rfl) ?_
  refine (c_m_isDesk l G Y x ad _ _ _ _ _ _ _ _ _ _ _ _).callS F (va_cwS 1 hts gX5_bind_X5_isDesk rfl rfl rfl (by decide +kernel) ⟨Nat.le_of_ble_eq_true rfl, Nat.le_of_ble_eq_true rfl⟩) hK hw hA rfl rfl hl.1 (Nat.le_of_ble_eq_true rfl) dX5_bind_6 ⟨Nat.le_of_ble_eq_true rfl, Nat.le_of_ble_eq_true rfl⟩ (fun r_6 u_6 H locs hp_6 hw => ?_)
  obtain ⟨rfl, ⟨hq_6, rfl⟩ | ⟨hq_6, rfl⟩⟩ := hp_6
  · skip
    refine lv_if_eq (tgt := 32) hx hb dX5_bind_9 (by decide) (fun c_9 => ?_) (fun c_9 => ?_)
    · exact absurd c_9 (by decide)
    · skip
      refine lv_iload_n hx hb dX5_bind_12 rfl (lv_at hl 2 rfl) ?_
      refine lv_if_lt (tgt := 32) hx hb dX5_bind_13 (by decide) (fun c_13 => ?_) (fun c_13 => ?_)
      · skip
        refine lv_bipush (v := -99) hx hb dX5_bind_32 (by decide) ?_
        exact ct_iret hx hb hr (vp_nar_int _) hlocks hK hw dX5_bind_34 (Nat.le_of_ble_eq_true rfl) (Nat.le_of_ble_eq_true rfl) (Or.inr ⟨fun h => h.2.1 c_13, rfl, rfl⟩)
      · skip
        refine lv_iload_n hx hb dX5_bind_16 rfl (lv_at hl 2 rfl) ?_
        refine lv_bipush (v := 8) hx hb dX5_bind_17 (by decide) ?_
        refine lv_icmp_gt (tgt := 32) hx hb dX5_bind_19 (by decide) (fun c_19 => ?_) (fun c_19 => ?_)
        · skip
          refine lv_bipush (v := -99) hx hb dX5_bind_32 (by decide) ?_
          exact ct_iret hx hb hr (vp_nar_int _) hlocks hK hw dX5_bind_34 (Nat.le_of_ble_eq_true rfl) (Nat.le_of_ble_eq_true rfl) (Or.inr ⟨fun h => h.2.2.1 c_19, rfl, rfl⟩)
        · skip
          refine lv_iload_n hx hb dX5_bind_22 rfl (lv_at hl 3 rfl) ?_
          refine lv_if_lt (tgt := 32) hx hb dX5_bind_23 (by decide) (fun c_23 => ?_) (fun c_23 => ?_)
          · skip
            refine lv_bipush (v := -99) hx hb dX5_bind_32 (by decide) ?_
            exact ct_iret hx hb hr (vp_nar_int _) hlocks hK hw dX5_bind_34 (Nat.le_of_ble_eq_true rfl) (Nat.le_of_ble_eq_true rfl) (Or.inr ⟨fun h => h.2.2.2.1 c_23, rfl, rfl⟩)
          · skip
            refine lv_iload_n hx hb dX5_bind_26 rfl (lv_at hl 3 rfl) ?_
            refine lv_bipush (v := 40) hx hb dX5_bind_27 (by decide) ?_
            refine lv_icmp_le (tgt := 35) hx hb dX5_bind_29 (by decide) (fun c_29 => ?_) (fun c_29 => ?_)
            · skip
              refine lv_iconst (v := 0) hx hb dX5_bind_35 (by decide) ?_
              refine lv_istore (lv' := [(4, .int _), (0, .ref _), (1, .int _), (2, .int _), (3, .int _)]) hx hb dX5_bind_36 hl (by decide) rfl (fun ls hl => ?_)
              refine W_loop (σ := Nat) 38 (fun n (k : Nat) H locs ls => n = 6 - k ∧ k ≤ 6 ∧ (∀ j, j < k → mUsed d (nI j) p0) ∧ wW G A s.heap (mW Y x ad (d, sc, sz, sg, ik, cp, wt, wa, ch, ct, 0)) H locs ∧ lv_has ls 6 [(4, .int (nI k)), (0, .ref x), (1, .int p0), (2, .int p1), (3, .int p2)]) ?_ (n := 6) (x := 0) ⟨rfl, by omega, lt_0, hw, hl⟩
              intro n k H locs ls hI ih
              obtain ⟨hn, hk, hall, hw, hl⟩ := hI
              have hk6 : k < 6 := by
                rcases Nat.lt_or_ge k 6 with q | q
                · exact q
                · exact (mPig hq_6 (fun j hj => hall j (by omega))).elim
              refine lv_aload_n hx hb dX5_bind_38 rfl (lv_at hl 1 rfl) ?_
              refine lv_iload hx hb dX5_bind_39 (lv_at hl 0 rfl) ?_
              refine lv_iload_n hx hb dX5_bind_41 rfl (lv_at hl 2 rfl) ?_
              refine (c_m_isUsed l G Y x ad _ _ _ _ _ _ _ _ _ _ _ _ _).callV F (cwV 2 hts gX5_bind_X5_isUsed rfl rfl rfl (by decide +kernel) ⟨Nat.le_of_ble_eq_true rfl, Nat.le_of_ble_eq_true rfl⟩) hK hw hA (m_recv hK hw) rfl rfl hl.1 (Nat.le_of_ble_eq_true rfl) dX5_bind_42 ⟨Nat.le_of_ble_eq_true rfl, Nat.le_of_ble_eq_true rfl⟩ (fun r_42 u_42 H locs hp_42 hw => ?_)
              obtain ⟨rfl, ⟨hq_42, rfl⟩ | ⟨hq_42, rfl⟩⟩ := hp_42
              · skip
                refine lv_if_eq (tgt := 54) hx hb dX5_bind_45 (by decide) (fun c_45 => ?_) (fun c_45 => ?_)
                · exact absurd c_45 (by decide)
                · skip
                  refine lv_iinc (lv' := [(4, .int _), (0, .ref _), (1, .int _), (2, .int _), (3, .int _)]) hx hb dX5_bind_48 hl (k := 0) rfl rfl (by decide) rfl (fun ls hl => ?_)
                  refine lv_goto (tgt := 38) hx hb dX5_bind_51 (by decide) ?_
                  exact ih _ (k + 1) _ _ _ (by omega) ⟨rfl, by omega, lt_s hall hq_42, hw, by rw [nI_succ]; exact hl⟩
              · skip
                refine lv_if_eq (tgt := 54) hx hb dX5_bind_45 (by decide) (fun c_45 => ?_) (fun c_45 => ?_)
                · skip
                  refine lv_aload_n hx hb dX5_bind_54 rfl (lv_at hl 1 rfl) ?_
                  refine m_get0 F hi hl7 hK hw dX5_bind_55 ?_
                  refine lv_iload_n hx hb dX5_bind_58 rfl (lv_at hl 2 rfl) ?_
                  refine lv_iload hx hb dX5_bind_59 (lv_at hl 0 rfl) ?_
                  refine m_st0 F hK hw hq_6.in dX5_bind_61 (fun H locs hw => ?_)
                  refine lv_aload_n hx hb dX5_bind_62 rfl (lv_at hl 1 rfl) ?_
                  refine m_get1 F hi hl13 hK hw dX5_bind_63 ?_
                  refine lv_iload hx hb dX5_bind_66 (lv_at hl 0 rfl) ?_
                  refine lv_iload_n hx hb dX5_bind_68 rfl (lv_at hl 3 rfl) ?_
                  refine m_st1 F hK hw (vp_in_nI hk6 (by decide)) dX5_bind_69 (fun H locs hw => ?_)
                  refine lv_aload_n hx hb dX5_bind_70 rfl (lv_at hl 1 rfl) ?_
                  refine m_get2 F hi hl16 hK hw dX5_bind_71 ?_
                  refine lv_iload hx hb dX5_bind_74 (lv_at hl 0 rfl) ?_
                  refine lv_iload_n hx hb dX5_bind_76 rfl (lv_at hl 4 rfl) ?_
                  refine m_st2 F hK hw (vp_in_nI hk6 (by decide)) dX5_bind_77 (fun H locs hw => ?_)
                  refine lv_iconst (v := 0) hx hb dX5_bind_78 (by decide) ?_
                  refine lv_istore (lv' := [(5, .int _), (4, .int _), (0, .ref _), (1, .int _), (2, .int _), (3, .int _)]) hx hb dX5_bind_79 hl (by decide) rfl (fun ls hl => ?_)
                  refine W_loop (σ := Nat) 81 (fun n (t : Nat) H locs ls => n = 40 - t ∧ t ≤ 40 ∧ wW G A s.heap (mW Y x ad (upd d (cl p0) (nI k), upd sc (cl (nI k)) p1, upd sz (cl (nI k)) p2, mZero sg k t, ik, cp, wt, wa, ch, ct, 0)) H locs ∧ lv_has ls 6 [(5, .int (nI t)), (4, .int (nI k)), (0, .ref x), (1, .int p0), (2, .int p1), (3, .int p2)]) ?_ (n := 40) (x := 0) ⟨rfl, by omega, by rw [mZero_0]; exact hw, hl⟩
                  intro n t H locs ls hI ih2
                  obtain ⟨hn2, ht, hw, hl⟩ := hI
                  refine lv_iload hx hb dX5_bind_81 (lv_at hl 0 rfl) ?_
                  refine lv_bipush (v := 40) hx hb dX5_bind_83 (by decide) ?_
                  refine lv_icmp_ge (tgt := 108) hx hb dX5_bind_85 (by decide) (fun c_85 => ?_) (fun c_85 => ?_)
                  · skip
                    have ht40 : t = 40 := by
                      have := le_of_c (a := 40) (by decide) (by omega) c_85
                      omega
                    refine lv_aload_n hx hb dX5_bind_108 rfl (lv_at hl 2 rfl) ?_
                    refine m_get9 F hi hl38 hK hw dX5_bind_109 ?_
                    refine lv_bipush (v := 7) hx hb dX5_bind_112 (by decide) ?_
                    refine lv_dup2_11 hx hb dX5_bind_114 rfl rfl ?_
                    refine m_ld9 F hK hw (vp_in_nI (n := 7) (by decide) (by decide)) dX5_bind_115 ?_
                    refine lv_iconst (v := 1) hx hb dX5_bind_116 (by decide) ?_
                    refine lv_iadd hx hb dX5_bind_117 ?_
                    refine m_st9 F hK hw (vp_in_nI (n := 7) (by decide) (by decide)) dX5_bind_118 (fun H locs hw => ?_)
                    refine lv_iconst (v := 0) hx hb dX5_bind_119 (by decide) ?_
                    exact ct_iret hx hb hr (vp_nar_int _) hlocks hK hw dX5_bind_120 (Nat.le_of_ble_eq_true rfl) (Nat.le_of_ble_eq_true rfl) (Or.inl ⟨⟨hq_6, c_13, c_19, c_23, c_29⟩, rfl, k, hk6, hq_42, by rw [ht40, cl_nI (by omega)]; rfl⟩)
                  · skip
                    have ht40 : t < 40 := lt_of_c (a := 40) (by decide) (by omega) c_85
                    refine lv_aload_n hx hb dX5_bind_88 rfl (lv_at hl 2 rfl) ?_
                    refine m_get3 F hi hl19 hK hw dX5_bind_89 ?_
                    refine lv_bipush (v := 40) hx hb dX5_bind_92 (by decide) ?_
                    refine lv_iload hx hb dX5_bind_94 (lv_at hl 1 rfl) ?_
                    refine lv_imul hx hb dX5_bind_96 ?_
                    refine lv_iload hx hb dX5_bind_97 (lv_at hl 0 rfl) ?_
                    refine lv_iadd hx hb dX5_bind_99 ?_
                    refine lv_lconst (v := 0) hx hb dX5_bind_100 (by decide) ?_
                    refine m_st3 F hK hw (in40 hk6 ht40) dX5_bind_101 (fun H locs hw => ?_)
                    refine lv_iinc (lv' := [(5, .int _), (4, .int _), (0, .ref _), (1, .int _), (2, .int _), (3, .int _)]) hx hb dX5_bind_102 hl (k := 0) rfl rfl (by decide) rfl (fun ls hl => ?_)
                    refine lv_goto (tgt := 81) hx hb dX5_bind_105 (by decide) ?_
                    exact ih2 _ (t + 1) _ _ _ (by omega) ⟨rfl, by omega, by rw [← mZero_s, ← cl40 hk6 ht40]; exact hw, by rw [nI_succ]; exact hl⟩
                · exact absurd rfl c_45
            · skip
              refine lv_bipush (v := -99) hx hb dX5_bind_32 (by decide) ?_
              exact ct_iret hx hb hr (vp_nar_int _) hlocks hK hw dX5_bind_34 (Nat.le_of_ble_eq_true rfl) (Nat.le_of_ble_eq_true rfl) (Or.inr ⟨fun h => c_29 h.2.2.2.2, rfl, rfl⟩)
  · skip
    refine lv_if_eq (tgt := 32) hx hb dX5_bind_9 (by decide) (fun c_9 => ?_) (fun c_9 => ?_)
    · skip
      refine lv_bipush (v := -99) hx hb dX5_bind_32 (by decide) ?_
      exact ct_iret hx hb hr (vp_nar_int _) hlocks hK hw dX5_bind_34 (Nat.le_of_ble_eq_true rfl) (Nat.le_of_ble_eq_true rfl) (Or.inr ⟨fun h => hq_6 h.1, rfl, rfl⟩)
    · exact absurd rfl c_9

set_option maxHeartbeats 4000000 in
set_option maxRecDepth 100000 in
theorem c_m_differ (l : Launch) (G : va_G) (Y : Nat → ClassId) (x : Nat) (ad : Nat → Nat) (d sc sz : Nat → Int32) (sg : Nat → Int64) (ik cp wt wa ch ct : Nat → Int32) (th : Int32) (p0 : Int32) (p1 : Int32) (hd : dOK d) (hz : zOK sz) : ctI l G Y (mW Y x ad) yX5_differ wsX5_differ ({ frames := 1, cells := 0, slots := 0, locals := 60 }) [.ref x, .int p0, .int p1] (d, sc, sz, sg, ik, cp, wt, wa, ch, ct, th) (fun r u' => mDifferP (d, sc, sz, sg, ik, cp, wt, wa, ch, ct, th) p0 p1 r u') := by
  refine ctI.of (cc := cX5_differ) (maxL := 8) (ret := (some .int)) (by decide) rfl (Nat.le_of_ble_eq_true rfl) ?_
  intro A p e s m below meth c ls hB
  obtain ⟨F, hr, hlocks, hnm, hK, hA, hw, hl⟩ := hB
  obtain ⟨hx, hb, hml, hown, hts⟩ := id F
  have hl : lv_has ls 8 [(0, .ref x), (1, .int p0), (2, .int p1)] := hl
  have hi : ∀ w ∈ wsX50, w ∈ wsX5_differ := by decide +kernel
  have hl7 : Cond.fieldLink RX5 7 "ScriptoriumModel" "desk" "[I" ∈ wsX5_differ := by decide +kernel
  have hl16 : Cond.fieldLink RX5 16 "ScriptoriumModel" "size" "[I" ∈ wsX5_differ := by decide +kernel
  have hl19 : Cond.fieldLink RX5 19 "ScriptoriumModel" "sign" "[J" ∈ wsX5_differ := by decide +kernel
  have hl41 : Cond.fieldLink RX5 41 "ScriptoriumModel" "thrown" "I" ∈ wsX5_differ := by decide +kernel
  refine lv_aload_n hx hb dX5_differ_0 rfl (lv_at hl 0 rfl) ?_
  refine lv_iconst (v := 0) hx hb dX5_differ_1 (by decide) ?_
  refine m_put10 F hi hl41 hK hw dX5_differ_2 (fun H locs hw => ?_)
  refine lv_iload_n hx hb dX5_differ_5 rfl (lv_at hl 1 rfl) ?_
  refine (c_m_isDesk l G Y x ad _ _ _ _ _ _ _ _ _ _ _ _).callS F (va_cwS 1 hts gX5_differ_X5_isDesk rfl rfl rfl (by decide +kernel) ⟨Nat.le_of_ble_eq_true rfl, Nat.le_of_ble_eq_true rfl⟩) hK hw hA rfl rfl hl.1 (Nat.le_of_ble_eq_true rfl) dX5_differ_6 ⟨Nat.le_of_ble_eq_true rfl, Nat.le_of_ble_eq_true rfl⟩ (fun r_6 u_6 H locs hp_6 hw => ?_)
  obtain ⟨rfl, ⟨hq_6, rfl⟩ | ⟨hq_6, rfl⟩⟩ := hp_6
  · skip
    refine lv_if_eq (tgt := 19) hx hb dX5_differ_9 (by decide) (fun c_9 => ?_) (fun c_9 => ?_)
    · exact absurd c_9 (by decide)
    · skip
      refine lv_iload_n hx hb dX5_differ_12 rfl (lv_at hl 2 rfl) ?_
      refine (c_m_isDesk l G Y x ad _ _ _ _ _ _ _ _ _ _ _ _).callS F (va_cwS 1 hts gX5_differ_X5_isDesk rfl rfl rfl (by decide +kernel) ⟨Nat.le_of_ble_eq_true rfl, Nat.le_of_ble_eq_true rfl⟩) hK hw hA rfl rfl hl.1 (Nat.le_of_ble_eq_true rfl) dX5_differ_13 ⟨Nat.le_of_ble_eq_true rfl, Nat.le_of_ble_eq_true rfl⟩ (fun r_13 u_13 H locs hp_13 hw => ?_)
      obtain ⟨rfl, ⟨hq_13, rfl⟩ | ⟨hq_13, rfl⟩⟩ := hp_13
      · skip
        refine lv_if_ne (tgt := 22) hx hb dX5_differ_16 (by decide) (fun c_16 => ?_) (fun c_16 => ?_)
        · skip
          refine lv_aload_n hx hb dX5_differ_22 rfl (lv_at hl 0 rfl) ?_
          refine lv_iload_n hx hb dX5_differ_23 rfl (lv_at hl 1 rfl) ?_
          refine lv_iload_n hx hb dX5_differ_24 rfl (lv_at hl 2 rfl) ?_
          refine (c_m_unlike l G Y x ad _ _ _ _ _ _ _ _ _ _ _ _ _ hd hq_6 hq_13).callV F (cwV 2 hts gX5_differ_X5_unlike rfl rfl rfl (by decide +kernel) ⟨Nat.le_of_ble_eq_true rfl, Nat.le_of_ble_eq_true rfl⟩) hK hw hA (m_recv hK hw) rfl rfl hl.1 (Nat.le_of_ble_eq_true rfl) dX5_differ_25 ⟨Nat.le_of_ble_eq_true rfl, Nat.le_of_ble_eq_true rfl⟩ (fun r_25 u_25 H locs hp_25 hw => ?_)
          obtain ⟨rfl, rfl⟩ := hp_25
          refine lv_istore_n (lv' := [(3, .int _), (0, .ref _), (1, .int _), (2, .int _)]) hx hb dX5_differ_28 rfl hl (by decide) rfl (fun ls hl => ?_)
          refine lv_iload_n hx hb dX5_differ_29 rfl (lv_at hl 0 rfl) ?_
          refine lv_if_eq (tgt := 35) hx hb dX5_differ_30 (by decide) (fun c_30 => ?_) (fun c_30 => ?_)
          · skip
            refine lv_aload_n hx hb dX5_differ_35 rfl (lv_at hl 1 rfl) ?_
            refine m_get0 F hi hl7 hK hw dX5_differ_36 ?_
            refine lv_iload_n hx hb dX5_differ_39 rfl (lv_at hl 2 rfl) ?_
            refine m_ld0 F hK hw hq_6.in dX5_differ_40 ?_
            refine lv_topi (fun v9 ev9 => ?_)
            have hu0 := mUnl_0 c_30
            obtain ⟨b1, hb1, eb1⟩ := (hd.at hq_6 hu0.1.1 hu0.2.1.1).nat
            obtain rfl : v9 = nI b1 := ev9.trans eb1
            refine lv_istore (lv' := [(4, .int _), (3, .int _), (0, .ref _), (1, .int _), (2, .int _)]) hx hb dX5_differ_41 hl (by decide) rfl (fun ls hl => ?_)
            refine lv_aload_n hx hb dX5_differ_43 rfl (lv_at hl 2 rfl) ?_
            refine m_get0 F hi hl7 hK hw dX5_differ_44 ?_
            refine lv_iload_n hx hb dX5_differ_47 rfl (lv_at hl 4 rfl) ?_
            refine m_ld0 F hK hw hq_13.in dX5_differ_48 ?_
            refine lv_topi (fun v9 ev9 => ?_)
            obtain ⟨b2, hb2, eb2⟩ := (hd.at hq_13 hu0.1.2 hu0.2.1.2).nat
            obtain rfl : v9 = nI b2 := ev9.trans eb2
            obtain ⟨n1, hn1, en1⟩ := hz b1 hb1
            obtain ⟨n2, hn2, en2⟩ := hz b2 hb2
            have e1 : sz (cl (nI b1)) = nI n1 := by rw [cl_nI (by omega)]; exact en1
            have e2 : sz (cl (nI b2)) = nI n2 := by rw [cl_nI (by omega)]; exact en2
            refine lv_istore (lv' := [(5, .int _), (4, .int _), (3, .int _), (0, .ref _), (1, .int _), (2, .int _)]) hx hb dX5_differ_49 hl (by decide) rfl (fun ls hl => ?_)
            refine lv_aload_n hx hb dX5_differ_51 rfl (lv_at hl 3 rfl) ?_
            refine m_get2 F hi hl16 hK hw dX5_differ_52 ?_
            refine lv_iload hx hb dX5_differ_55 (lv_at hl 1 rfl) ?_
            refine m_ld2 F hK hw (vp_in_nI hb1 (by decide)) dX5_differ_57 ?_
            refine lv_aload_n hx hb dX5_differ_58 rfl (lv_at hl 3 rfl) ?_
            refine m_get2 F hi hl16 hK hw dX5_differ_59 ?_
            refine lv_iload hx hb dX5_differ_62 (lv_at hl 0 rfl) ?_
            refine m_ld2 F hK hw (vp_in_nI hb2 (by decide)) dX5_differ_64 ?_
            refine lv_icmp_ge (tgt := 78) hx hb dX5_differ_65 (by decide) (fun c_65 => ?_) (fun c_65 => ?_)
            · skip
              refine lv_aload_n hx hb dX5_differ_78 rfl (lv_at hl 3 rfl) ?_
              refine m_get2 F hi hl16 hK hw dX5_differ_79 ?_
              refine lv_iload hx hb dX5_differ_82 (lv_at hl 0 rfl) ?_
              refine m_ld2 F hK hw (vp_in_nI hb2 (by decide)) dX5_differ_84 ?_
              refine lv_topi (fun v9 ev9 => ?_)
              obtain ⟨nm, h9, h8, h7⟩ : ∃ nm : Nat, v9 = nI nm ∧ (nm ≤ n1 ∧ nm ≤ n2) ∧ (nm = n1 ∨ nm = n2) := by
                have q := c_65
                rw [e1, e2] at q
                exact ⟨n2, ev9.trans e2, ⟨le_of_c (by omega) (by omega) q, Nat.le_refl _⟩, Or.inr rfl⟩
              subst h9
              refine lv_istore (lv' := [(6, .int _), (5, .int _), (4, .int _), (3, .int _), (0, .ref _), (1, .int _), (2, .int _)]) hx hb dX5_differ_85 hl (by decide) rfl (fun ls hl => ?_)
              refine lv_iconst (v := 0) hx hb dX5_differ_87 (by decide) ?_
              refine lv_istore (lv' := [(7, .int _), (6, .int _), (5, .int _), (4, .int _), (3, .int _), (0, .ref _), (1, .int _), (2, .int _)]) hx hb dX5_differ_88 hl (by decide) rfl (fun ls hl => ?_)
              refine W_loop (σ := Nat) 90 (fun n (t : Nat) H locs ls => n = nm - t ∧ t ≤ nm ∧ (∀ j, j < t → sg (40 * b1 + j) = sg (40 * b2 + j)) ∧ wW G A s.heap (mW Y x ad (d, sc, sz, sg, ik, cp, wt, wa, ch, ct, 0)) H locs ∧ lv_has ls 8 [(7, .int (nI t)), (6, .int (nI nm)), (5, .int (nI b2)), (4, .int (nI b1)), (3, .int (mUnl d sc p0 p1)), (0, .ref x), (1, .int p0), (2, .int p1)]) ?_ (n := nm) (x := 0) ⟨rfl, by omega, lt_0, hw, hl⟩
              intro n t H locs ls hI ih
              obtain ⟨hn, ht, hall, hw, hl⟩ := hI
              refine lv_iload hx hb dX5_differ_90 (lv_at hl 0 rfl) ?_
              refine lv_iload hx hb dX5_differ_92 (lv_at hl 1 rfl) ?_
              refine lv_icmp_ge (tgt := 136) hx hb dX5_differ_94 (by decide) (fun c_94 => ?_) (fun c_94 => ?_)
              · skip
                have htn : t = nm := by
                  have := le_of_c (by omega) (by omega) c_94
                  omega
                refine lv_aload_n hx hb dX5_differ_136 rfl (lv_at hl 5 rfl) ?_
                refine m_get2 F hi hl16 hK hw dX5_differ_137 ?_
                refine lv_iload hx hb dX5_differ_140 (lv_at hl 3 rfl) ?_
                refine m_ld2 F hK hw (vp_in_nI hb1 (by decide)) dX5_differ_142 ?_
                refine lv_aload_n hx hb dX5_differ_143 rfl (lv_at hl 5 rfl) ?_
                refine m_get2 F hi hl16 hK hw dX5_differ_144 ?_
                refine lv_iload hx hb dX5_differ_147 (lv_at hl 2 rfl) ?_
                refine m_ld2 F hK hw (vp_in_nI hb2 (by decide)) dX5_differ_149 ?_
                refine lv_icmp_ne (tgt := 158) hx hb dX5_differ_150 (by decide) (fun c_150 => ?_) (fun c_150 => ?_)
                · skip
                  refine lv_iload hx hb dX5_differ_158 (lv_at hl 1 rfl) ?_
                  exact ct_iret hx hb hr (vp_nar_int _) hlocks hK hw dX5_differ_160 (Nat.le_of_ble_eq_true rfl) (Nat.le_of_ble_eq_true rfl) ⟨rfl, Or.inr (Or.inr ⟨⟨hq_6, hq_13⟩, c_30, b1, b2, n1, n2, hb1, hb2, eb1, eb2, en1, en2, hn1, hn2, Or.inr ⟨fun j h1 h2 => hall j (by omega), by
                      have q : n1 ≠ n2 := fun q => c_150 (by rw [e1, e2, q])
                      rcases h7 with rfl | rfl
                      · exact Or.inr (Or.inl ⟨by omega, rfl⟩)
                      · exact Or.inr (Or.inr ⟨by omega, rfl⟩)⟩⟩)⟩
                · skip
                  refine lv_bipush (v := -60) hx hb dX5_differ_153 (by decide) ?_
                  refine lv_goto (tgt := 160) hx hb dX5_differ_155 (by decide) ?_
                  exact ct_iret hx hb hr (vp_nar_int _) hlocks hK hw dX5_differ_160 (Nat.le_of_ble_eq_true rfl) (Nat.le_of_ble_eq_true rfl) ⟨rfl, Or.inr (Or.inr ⟨⟨hq_6, hq_13⟩, c_30, b1, b2, n1, n2, hb1, hb2, eb1, eb2, en1, en2, hn1, hn2, Or.inr ⟨fun j h1 h2 => hall j (by omega), Or.inl ⟨by have q := c_150; rw [e1, e2] at q; exact (nI_eq (by omega) (by omega)).mp q, rfl⟩⟩⟩)⟩
              · skip
                have htn : t < nm := lt_of_c (by omega) (by omega) c_94
                refine lv_aload_n hx hb dX5_differ_97 rfl (lv_at hl 5 rfl) ?_
                refine m_get3 F hi hl19 hK hw dX5_differ_98 ?_
                refine lv_bipush (v := 40) hx hb dX5_differ_101 (by decide) ?_
                refine lv_iload hx hb dX5_differ_103 (lv_at hl 3 rfl) ?_
                refine lv_imul hx hb dX5_differ_105 ?_
                refine lv_iload hx hb dX5_differ_106 (lv_at hl 0 rfl) ?_
                refine lv_iadd hx hb dX5_differ_108 ?_
                refine m_ld3 F hK hw (in40 hb1 (by omega)) dX5_differ_109 ?_
                refine lv_aload_n hx hb dX5_differ_110 rfl (lv_at hl 5 rfl) ?_
                refine m_get3 F hi hl19 hK hw dX5_differ_111 ?_
                refine lv_bipush (v := 40) hx hb dX5_differ_114 (by decide) ?_
                refine lv_iload hx hb dX5_differ_116 (lv_at hl 2 rfl) ?_
                refine lv_imul hx hb dX5_differ_118 ?_
                refine lv_iload hx hb dX5_differ_119 (lv_at hl 0 rfl) ?_
                refine lv_iadd hx hb dX5_differ_121 ?_
                refine m_ld3 F hK hw (in40 hb2 (by omega)) dX5_differ_122 ?_
                refine W.lcmp hx hb dX5_differ_123 ?_
                rw [cl40 hb1 (show t < 40 by omega), cl40 hb2 (show t < 40 by omega)]
                refine lv_if_eq (tgt := 130) hx hb dX5_differ_124 (by decide) (fun c_124 => ?_) (fun c_124 => ?_)
                · skip
                  refine lv_iinc (lv' := [(7, .int _), (6, .int _), (5, .int _), (4, .int _), (3, .int _), (0, .ref _), (1, .int _), (2, .int _)]) hx hb dX5_differ_130 hl (k := 0) rfl rfl (by decide) rfl (fun ls hl => ?_)
                  refine lv_goto (tgt := 90) hx hb dX5_differ_133 (by decide) ?_
                  exact ih _ (t + 1) _ _ _ (by omega) ⟨rfl, by omega, lt_s hall (lcmp0.mp c_124), hw, by rw [nI_succ]; exact hl⟩
                · skip
                  refine lv_iload hx hb dX5_differ_127 (lv_at hl 0 rfl) ?_
                  exact ct_iret hx hb hr (vp_nar_int _) hlocks hK hw dX5_differ_129 (Nat.le_of_ble_eq_true rfl) (Nat.le_of_ble_eq_true rfl) ⟨rfl, Or.inr (Or.inr ⟨⟨hq_6, hq_13⟩, c_30, b1, b2, n1, n2, hb1, hb2, eb1, eb2, en1, en2, hn1, hn2, Or.inl ⟨t, by omega, by omega, hall, fun q => c_124 (lcmp0.mpr q), rfl⟩⟩)⟩
            · skip
              refine lv_aload_n hx hb dX5_differ_68 rfl (lv_at hl 3 rfl) ?_
              refine m_get2 F hi hl16 hK hw dX5_differ_69 ?_
              refine lv_iload hx hb dX5_differ_72 (lv_at hl 1 rfl) ?_
              refine m_ld2 F hK hw (vp_in_nI hb1 (by decide)) dX5_differ_74 ?_
              refine lv_goto (tgt := 85) hx hb dX5_differ_75 (by decide) ?_
              refine lv_topi (fun v9 ev9 => ?_)
              obtain ⟨nm, h9, h8, h7⟩ : ∃ nm : Nat, v9 = nI nm ∧ (nm ≤ n1 ∧ nm ≤ n2) ∧ (nm = n1 ∨ nm = n2) := by
                have q := c_65
                rw [e1, e2] at q
                have := lt_of_c (by omega) (by omega) q
                exact ⟨n1, ev9.trans e1, ⟨Nat.le_refl _, by omega⟩, Or.inl rfl⟩
              subst h9
              refine lv_istore (lv' := [(6, .int _), (5, .int _), (4, .int _), (3, .int _), (0, .ref _), (1, .int _), (2, .int _)]) hx hb dX5_differ_85 hl (by decide) rfl (fun ls hl => ?_)
              refine lv_iconst (v := 0) hx hb dX5_differ_87 (by decide) ?_
              refine lv_istore (lv' := [(7, .int _), (6, .int _), (5, .int _), (4, .int _), (3, .int _), (0, .ref _), (1, .int _), (2, .int _)]) hx hb dX5_differ_88 hl (by decide) rfl (fun ls hl => ?_)
              refine W_loop (σ := Nat) 90 (fun n (t : Nat) H locs ls => n = nm - t ∧ t ≤ nm ∧ (∀ j, j < t → sg (40 * b1 + j) = sg (40 * b2 + j)) ∧ wW G A s.heap (mW Y x ad (d, sc, sz, sg, ik, cp, wt, wa, ch, ct, 0)) H locs ∧ lv_has ls 8 [(7, .int (nI t)), (6, .int (nI nm)), (5, .int (nI b2)), (4, .int (nI b1)), (3, .int (mUnl d sc p0 p1)), (0, .ref x), (1, .int p0), (2, .int p1)]) ?_ (n := nm) (x := 0) ⟨rfl, by omega, lt_0, hw, hl⟩
              intro n t H locs ls hI ih
              obtain ⟨hn, ht, hall, hw, hl⟩ := hI
              refine lv_iload hx hb dX5_differ_90 (lv_at hl 0 rfl) ?_
              refine lv_iload hx hb dX5_differ_92 (lv_at hl 1 rfl) ?_
              refine lv_icmp_ge (tgt := 136) hx hb dX5_differ_94 (by decide) (fun c_94 => ?_) (fun c_94 => ?_)
              · skip
                have htn : t = nm := by
                  have := le_of_c (by omega) (by omega) c_94
                  omega
                refine lv_aload_n hx hb dX5_differ_136 rfl (lv_at hl 5 rfl) ?_
                refine m_get2 F hi hl16 hK hw dX5_differ_137 ?_
                refine lv_iload hx hb dX5_differ_140 (lv_at hl 3 rfl) ?_
                refine m_ld2 F hK hw (vp_in_nI hb1 (by decide)) dX5_differ_142 ?_
                refine lv_aload_n hx hb dX5_differ_143 rfl (lv_at hl 5 rfl) ?_
                refine m_get2 F hi hl16 hK hw dX5_differ_144 ?_
                refine lv_iload hx hb dX5_differ_147 (lv_at hl 2 rfl) ?_
                refine m_ld2 F hK hw (vp_in_nI hb2 (by decide)) dX5_differ_149 ?_
                refine lv_icmp_ne (tgt := 158) hx hb dX5_differ_150 (by decide) (fun c_150 => ?_) (fun c_150 => ?_)
                · skip
                  refine lv_iload hx hb dX5_differ_158 (lv_at hl 1 rfl) ?_
                  exact ct_iret hx hb hr (vp_nar_int _) hlocks hK hw dX5_differ_160 (Nat.le_of_ble_eq_true rfl) (Nat.le_of_ble_eq_true rfl) ⟨rfl, Or.inr (Or.inr ⟨⟨hq_6, hq_13⟩, c_30, b1, b2, n1, n2, hb1, hb2, eb1, eb2, en1, en2, hn1, hn2, Or.inr ⟨fun j h1 h2 => hall j (by omega), by
                      have q : n1 ≠ n2 := fun q => c_150 (by rw [e1, e2, q])
                      rcases h7 with rfl | rfl
                      · exact Or.inr (Or.inl ⟨by omega, rfl⟩)
                      · exact Or.inr (Or.inr ⟨by omega, rfl⟩)⟩⟩)⟩
                · skip
                  refine lv_bipush (v := -60) hx hb dX5_differ_153 (by decide) ?_
                  refine lv_goto (tgt := 160) hx hb dX5_differ_155 (by decide) ?_
                  exact ct_iret hx hb hr (vp_nar_int _) hlocks hK hw dX5_differ_160 (Nat.le_of_ble_eq_true rfl) (Nat.le_of_ble_eq_true rfl) ⟨rfl, Or.inr (Or.inr ⟨⟨hq_6, hq_13⟩, c_30, b1, b2, n1, n2, hb1, hb2, eb1, eb2, en1, en2, hn1, hn2, Or.inr ⟨fun j h1 h2 => hall j (by omega), Or.inl ⟨by have q := c_150; rw [e1, e2] at q; exact (nI_eq (by omega) (by omega)).mp q, rfl⟩⟩⟩)⟩
              · skip
                have htn : t < nm := lt_of_c (by omega) (by omega) c_94
                refine lv_aload_n hx hb dX5_differ_97 rfl (lv_at hl 5 rfl) ?_
                refine m_get3 F hi hl19 hK hw dX5_differ_98 ?_
                refine lv_bipush (v := 40) hx hb dX5_differ_101 (by decide) ?_
                refine lv_iload hx hb dX5_differ_103 (lv_at hl 3 rfl) ?_
                refine lv_imul hx hb dX5_differ_105 ?_
                refine lv_iload hx hb dX5_differ_106 (lv_at hl 0 rfl) ?_
                refine lv_iadd hx hb dX5_differ_108 ?_
                refine m_ld3 F hK hw (in40 hb1 (by omega)) dX5_differ_109 ?_
                refine lv_aload_n hx hb dX5_differ_110 rfl (lv_at hl 5 rfl) ?_
                refine m_get3 F hi hl19 hK hw dX5_differ_111 ?_
                refine lv_bipush (v := 40) hx hb dX5_differ_114 (by decide) ?_
                refine lv_iload hx hb dX5_differ_116 (lv_at hl 2 rfl) ?_
                refine lv_imul hx hb dX5_differ_118 ?_
                refine lv_iload hx hb dX5_differ_119 (lv_at hl 0 rfl) ?_
                refine lv_iadd hx hb dX5_differ_121 ?_
                refine m_ld3 F hK hw (in40 hb2 (by omega)) dX5_differ_122 ?_
                refine W.lcmp hx hb dX5_differ_123 ?_
                rw [cl40 hb1 (show t < 40 by omega), cl40 hb2 (show t < 40 by omega)]
                refine lv_if_eq (tgt := 130) hx hb dX5_differ_124 (by decide) (fun c_124 => ?_) (fun c_124 => ?_)
                · skip
                  refine lv_iinc (lv' := [(7, .int _), (6, .int _), (5, .int _), (4, .int _), (3, .int _), (0, .ref _), (1, .int _), (2, .int _)]) hx hb dX5_differ_130 hl (k := 0) rfl rfl (by decide) rfl (fun ls hl => ?_)
                  refine lv_goto (tgt := 90) hx hb dX5_differ_133 (by decide) ?_
                  exact ih _ (t + 1) _ _ _ (by omega) ⟨rfl, by omega, lt_s hall (lcmp0.mp c_124), hw, by rw [nI_succ]; exact hl⟩
                · skip
                  refine lv_iload hx hb dX5_differ_127 (lv_at hl 0 rfl) ?_
                  exact ct_iret hx hb hr (vp_nar_int _) hlocks hK hw dX5_differ_129 (Nat.le_of_ble_eq_true rfl) (Nat.le_of_ble_eq_true rfl) ⟨rfl, Or.inr (Or.inr ⟨⟨hq_6, hq_13⟩, c_30, b1, b2, n1, n2, hb1, hb2, eb1, eb2, en1, en2, hn1, hn2, Or.inl ⟨t, by omega, by omega, hall, fun q => c_124 (lcmp0.mpr q), rfl⟩⟩)⟩
          · skip
            refine lv_iload_n hx hb dX5_differ_33 rfl (lv_at hl 0 rfl) ?_
            exact ct_iret hx hb hr (vp_nar_int _) hlocks hK hw dX5_differ_34 (Nat.le_of_ble_eq_true rfl) (Nat.le_of_ble_eq_true rfl) ⟨rfl, Or.inr (Or.inl ⟨⟨hq_6, hq_13⟩, c_30, rfl⟩)⟩
        · exact absurd c_16 (by decide)
      · skip
        refine lv_if_ne (tgt := 22) hx hb dX5_differ_16 (by decide) (fun c_16 => ?_) (fun c_16 => ?_)
        · exact absurd rfl c_16
        · skip
          refine lv_bipush (v := -99) hx hb dX5_differ_19 (by decide) ?_
          exact ct_iret hx hb hr (vp_nar_int _) hlocks hK hw dX5_differ_21 (Nat.le_of_ble_eq_true rfl) (Nat.le_of_ble_eq_true rfl) ⟨rfl, Or.inl ⟨fun h => hq_13 h.2, rfl⟩⟩
  · skip
    refine lv_if_eq (tgt := 19) hx hb dX5_differ_9 (by decide) (fun c_9 => ?_) (fun c_9 => ?_)
    · skip
      refine lv_bipush (v := -99) hx hb dX5_differ_19 (by decide) ?_
      exact ct_iret hx hb hr (vp_nar_int _) hlocks hK hw dX5_differ_21 (Nat.le_of_ble_eq_true rfl) (Nat.le_of_ble_eq_true rfl) ⟨rfl, Or.inl ⟨fun h => hq_6 h.1, rfl⟩⟩
    · exact absurd rfl c_9

set_option maxHeartbeats 4000000 in
set_option maxRecDepth 100000 in
theorem c_m_passes (l : Launch) (G : va_G) (Y : Nat → ClassId) (x : Nat) (ad : Nat → Nat) (d sc sz : Nat → Int32) (sg : Nat → Int64) (ik cp wt wa ch ct : Nat → Int32) (th : Int32) (p0 : Int32) (p1 : Int32) (p2 : Int32) (p3 : Int32) (p4 : Int32) (hd : dOK d) (hz : zOK sz) (h0 : isD p0) (h2 : isD p2) : ctI l G Y (mW Y x ad) yX5_passes wsX5_passes ({ frames := 1, cells := 0, slots := 0, locals := 60 }) [.ref x, .int p0, .int p1, .int p2, .int p3, .int p4] (d, sc, sz, sg, ik, cp, wt, wa, ch, ct, th) (fun r u' => ∃ sg', u' = (d, sc, sz, sg', ik, cp, wt, wa, ch, ct, th) ∧ mPassP d sc sz sg p0 p1 p2 p3 p4 r sg') := by
  refine ctI.of (cc := cX5_passes) (maxL := 13) (ret := (some .int)) (by decide) rfl (Nat.le_of_ble_eq_true rfl) ?_
  intro A p e s m below meth c ls hB
  obtain ⟨F, hr, hlocks, hnm, hK, hA, hw, hl⟩ := hB
  obtain ⟨hx, hb, hml, hown, hts⟩ := id F
  have hl : lv_has ls 13 [(0, .ref x), (1, .int p0), (2, .int p1), (3, .int p2), (4, .int p3), (5, .int p4)] := hl
  have hi : ∀ w ∈ wsX50, w ∈ wsX5_passes := by decide +kernel
  have hl7 : Cond.fieldLink RX5 7 "ScriptoriumModel" "desk" "[I" ∈ wsX5_passes := by decide +kernel
  have hl16 : Cond.fieldLink RX5 16 "ScriptoriumModel" "size" "[I" ∈ wsX5_passes := by decide +kernel
  have hl19 : Cond.fieldLink RX5 19 "ScriptoriumModel" "sign" "[J" ∈ wsX5_passes := by decide +kernel
  refine lv_aload_n hx hb dX5_passes_0 rfl (lv_at hl 0 rfl) ?_
  refine lv_iload_n hx hb dX5_passes_1 rfl (lv_at hl 1 rfl) ?_
  refine lv_iload_n hx hb dX5_passes_2 rfl (lv_at hl 3 rfl) ?_
  refine (c_m_unlike l G Y x ad _ _ _ _ _ _ _ _ _ _ _ _ _ hd h0 h2).callV F (cwV 2 hts gX5_passes_X5_unlike rfl rfl rfl (by decide +kernel) ⟨Nat.le_of_ble_eq_true rfl, Nat.le_of_ble_eq_true rfl⟩) hK hw hA (m_recv hK hw) rfl rfl hl.1 (Nat.le_of_ble_eq_true rfl) dX5_passes_3 ⟨Nat.le_of_ble_eq_true rfl, Nat.le_of_ble_eq_true rfl⟩ (fun r_3 u_3 H locs hp_3 hw => ?_)
  obtain ⟨rfl, rfl⟩ := hp_3
  refine lv_istore (lv' := [(6, .int _), (0, .ref _), (1, .int _), (2, .int _), (3, .int _), (4, .int _), (5, .int _)]) hx hb dX5_passes_6 hl (by decide) rfl (fun ls hl => ?_)
  refine lv_iload hx hb dX5_passes_8 (lv_at hl 0 rfl) ?_
  refine lv_if_eq (tgt := 16) hx hb dX5_passes_10 (by decide) (fun c_10 => ?_) (fun c_10 => ?_)
  · skip
    refine lv_aload_n hx hb dX5_passes_16 rfl (lv_at hl 1 rfl) ?_
    refine m_get0 F hi hl7 hK hw dX5_passes_17 ?_
    refine lv_iload_n hx hb dX5_passes_20 rfl (lv_at hl 2 rfl) ?_
    refine m_ld0 F hK hw h0.in dX5_passes_21 ?_
    refine lv_topi (fun v9 ev9 => ?_)
    have hu0 := mUnl_0 c_10
    obtain ⟨bf, hbf, ebf⟩ := (hd.at h0 hu0.1.1 hu0.2.1.1).nat
    obtain rfl : v9 = nI bf := ev9.trans ebf
    refine lv_istore (lv' := [(7, .int _), (6, .int _), (0, .ref _), (1, .int _), (2, .int _), (3, .int _), (4, .int _), (5, .int _)]) hx hb dX5_passes_22 hl (by decide) rfl (fun ls hl => ?_)
    refine lv_aload_n hx hb dX5_passes_24 rfl (lv_at hl 2 rfl) ?_
    refine m_get0 F hi hl7 hK hw dX5_passes_25 ?_
    refine lv_iload_n hx hb dX5_passes_28 rfl (lv_at hl 5 rfl) ?_
    refine m_ld0 F hK hw h2.in dX5_passes_29 ?_
    refine lv_topi (fun v9 ev9 => ?_)
    obtain ⟨bt, hbt, ebt⟩ := (hd.at h2 hu0.1.2 hu0.2.1.2).nat
    obtain rfl : v9 = nI bt := ev9.trans ebt
    obtain ⟨nf, hnf, enf⟩ := hz bf hbf
    obtain ⟨nt, hnt, ent⟩ := hz bt hbt
    have e1 : sz (cl (nI bf)) = nI nf := by rw [cl_nI (by omega)]; exact enf
    have e2 : sz (cl (nI bt)) = nI nt := by rw [cl_nI (by omega)]; exact ent
    have e3 : sz (cl (d (cl p0))) = sz (cl (nI bf)) := by rw [ebf]
    have e4 : sz (cl (d (cl p2))) = sz (cl (nI bt)) := by rw [ebt]
    refine lv_istore (lv' := [(8, .int _), (7, .int _), (6, .int _), (0, .ref _), (1, .int _), (2, .int _), (3, .int _), (4, .int _), (5, .int _)]) hx hb dX5_passes_30 hl (by decide) rfl (fun ls hl => ?_)
    refine lv_iload_n hx hb dX5_passes_32 rfl (lv_at hl 5 rfl) ?_
    refine lv_if_lt (tgt := 99) hx hb dX5_passes_33 (by decide) (fun c_33 => ?_) (fun c_33 => ?_)
    · skip
      refine lv_bipush (v := -3) hx hb dX5_passes_99 (by decide) ?_
      exact ct_iret hx hb hr (vp_nar_int _) hlocks hK hw dX5_passes_101 (Nat.le_of_ble_eq_true rfl) (Nat.le_of_ble_eq_true rfl) ⟨_, rfl, Or.inr (Or.inl ⟨c_10, by rw [e3, e4]; exact fun h => h.1 c_33, rfl, rfl⟩)⟩
    · skip
      refine lv_iload hx hb dX5_passes_36 (lv_at hl 7 rfl) ?_
      refine lv_if_lt (tgt := 99) hx hb dX5_passes_38 (by decide) (fun c_38 => ?_) (fun c_38 => ?_)
      · skip
        refine lv_bipush (v := -3) hx hb dX5_passes_99 (by decide) ?_
        exact ct_iret hx hb hr (vp_nar_int _) hlocks hK hw dX5_passes_101 (Nat.le_of_ble_eq_true rfl) (Nat.le_of_ble_eq_true rfl) ⟨_, rfl, Or.inr (Or.inl ⟨c_10, by rw [e3, e4]; exact fun h => h.2.1 c_38, rfl, rfl⟩)⟩
      · skip
        refine lv_iload hx hb dX5_passes_41 (lv_at hl 8 rfl) ?_
        refine lv_if_lt (tgt := 99) hx hb dX5_passes_43 (by decide) (fun c_43 => ?_) (fun c_43 => ?_)
        · skip
          refine lv_bipush (v := -3) hx hb dX5_passes_99 (by decide) ?_
          exact ct_iret hx hb hr (vp_nar_int _) hlocks hK hw dX5_passes_101 (Nat.le_of_ble_eq_true rfl) (Nat.le_of_ble_eq_true rfl) ⟨_, rfl, Or.inr (Or.inl ⟨c_10, by rw [e3, e4]; exact fun h => h.2.2.1 c_43, rfl, rfl⟩)⟩
        · skip
          refine lv_iload hx hb dX5_passes_46 (lv_at hl 8 rfl) ?_
          refine lv_aload_n hx hb dX5_passes_48 rfl (lv_at hl 3 rfl) ?_
          refine m_get2 F hi hl16 hK hw dX5_passes_49 ?_
          refine lv_iload hx hb dX5_passes_52 (lv_at hl 1 rfl) ?_
          refine m_ld2 F hK hw (vp_in_nI hbf (by decide)) dX5_passes_54 ?_
          refine lv_icmp_gt (tgt := 99) hx hb dX5_passes_55 (by decide) (fun c_55 => ?_) (fun c_55 => ?_)
          · skip
            refine lv_bipush (v := -3) hx hb dX5_passes_99 (by decide) ?_
            exact ct_iret hx hb hr (vp_nar_int _) hlocks hK hw dX5_passes_101 (Nat.le_of_ble_eq_true rfl) (Nat.le_of_ble_eq_true rfl) ⟨_, rfl, Or.inr (Or.inl ⟨c_10, by rw [e3, e4]; exact fun h => h.2.2.2.1 c_55, rfl, rfl⟩)⟩
          · skip
            refine lv_iload hx hb dX5_passes_58 (lv_at hl 8 rfl) ?_
            refine lv_aload_n hx hb dX5_passes_60 rfl (lv_at hl 3 rfl) ?_
            refine m_get2 F hi hl16 hK hw dX5_passes_61 ?_
            refine lv_iload hx hb dX5_passes_64 (lv_at hl 0 rfl) ?_
            refine m_ld2 F hK hw (vp_in_nI hbt (by decide)) dX5_passes_66 ?_
            refine lv_icmp_gt (tgt := 99) hx hb dX5_passes_67 (by decide) (fun c_67 => ?_) (fun c_67 => ?_)
            · skip
              refine lv_bipush (v := -3) hx hb dX5_passes_99 (by decide) ?_
              exact ct_iret hx hb hr (vp_nar_int _) hlocks hK hw dX5_passes_101 (Nat.le_of_ble_eq_true rfl) (Nat.le_of_ble_eq_true rfl) ⟨_, rfl, Or.inr (Or.inl ⟨c_10, by rw [e3, e4]; exact fun h => h.2.2.2.2.1 c_67, rfl, rfl⟩)⟩
            · skip
              refine lv_iload_n hx hb dX5_passes_70 rfl (lv_at hl 5 rfl) ?_
              refine lv_aload_n hx hb dX5_passes_71 rfl (lv_at hl 3 rfl) ?_
              refine m_get2 F hi hl16 hK hw dX5_passes_72 ?_
              refine lv_iload hx hb dX5_passes_75 (lv_at hl 1 rfl) ?_
              refine m_ld2 F hK hw (vp_in_nI hbf (by decide)) dX5_passes_77 ?_
              refine lv_iload hx hb dX5_passes_78 (lv_at hl 8 rfl) ?_
              refine lv_isub hx hb dX5_passes_80 ?_
              refine lv_icmp_gt (tgt := 99) hx hb dX5_passes_81 (by decide) (fun c_81 => ?_) (fun c_81 => ?_)
              · skip
                refine lv_bipush (v := -3) hx hb dX5_passes_99 (by decide) ?_
                exact ct_iret hx hb hr (vp_nar_int _) hlocks hK hw dX5_passes_101 (Nat.le_of_ble_eq_true rfl) (Nat.le_of_ble_eq_true rfl) ⟨_, rfl, Or.inr (Or.inl ⟨c_10, by rw [e3, e4]; exact fun h => h.2.2.2.2.2.1 c_81, rfl, rfl⟩)⟩
              · skip
                refine lv_iload hx hb dX5_passes_84 (lv_at hl 7 rfl) ?_
                refine lv_aload_n hx hb dX5_passes_86 rfl (lv_at hl 3 rfl) ?_
                refine m_get2 F hi hl16 hK hw dX5_passes_87 ?_
                refine lv_iload hx hb dX5_passes_90 (lv_at hl 0 rfl) ?_
                refine m_ld2 F hK hw (vp_in_nI hbt (by decide)) dX5_passes_92 ?_
                refine lv_iload hx hb dX5_passes_93 (lv_at hl 8 rfl) ?_
                refine lv_isub hx hb dX5_passes_95 ?_
                refine lv_icmp_le (tgt := 102) hx hb dX5_passes_96 (by decide) (fun c_96 => ?_) (fun c_96 => ?_)
                · skip
                  have hfit : mFit p1 p3 p4 (sz (cl (nI bf))) (sz (cl (nI bt))) := ⟨c_33, c_38, c_43, c_55, c_67, c_81, c_96⟩
                  rw [e1, e2] at hfit
                  obtain ⟨ii, jj, nn, rfl, rfl, rfl, hii, hjj⟩ := mFit_nat hnf hnt hfit
                  refine lv_iload hx hb dX5_passes_102 (lv_at hl 8 rfl) ?_
                  refine lv_istore (lv' := [(9, .int _), (8, .int _), (7, .int _), (6, .int _), (0, .ref _), (1, .int _), (2, .int _), (3, .int _), (4, .int _), (5, .int _)]) hx hb dX5_passes_104 hl (by decide) rfl (fun ls hl => ?_)
                  refine lv_iload hx hb dX5_passes_106 (lv_at hl 9 rfl) ?_
                  refine lv_iconst (v := 1) hx hb dX5_passes_108 (by decide) ?_
                  refine lv_isub hx hb dX5_passes_109 ?_
                  refine lv_istore (lv' := [(10, .int _), (9, .int _), (8, .int _), (7, .int _), (6, .int _), (0, .ref _), (1, .int _), (2, .int _), (3, .int _), (4, .int _), (5, .int _)]) hx hb dX5_passes_110 hl (by decide) rfl (fun ls hl => ?_)
                  refine W_loop (σ := Nat × Nat) 112 (fun n (q : Nat × Nat) H locs ls => n = q.1 ∧ mSeek sc sg bf bt ii nn q.1 q.2 ∧ wW G A s.heap (mW Y x ad (d, sc, sz, sg, ik, cp, wt, wa, ch, ct, th)) H locs ∧ lv_has ls 13 [(10, .int (nI q.1 - 1)), (9, .int (nI q.2)), (8, .int (nI bt)), (7, .int (nI bf)), (6, .int (mUnl d sc p0 p2)), (0, .ref x), (1, .int p0), (2, .int (nI ii)), (3, .int p2), (4, .int (nI jj)), (5, .int (nI nn))]) ?_ (n := nn) (x := (nn, nn)) ⟨rfl, ⟨Nat.le_refl _, Nat.le_refl _, Nat.le_refl _, fun k h1 h2 => by omega, fun h => absurd h (Nat.lt_irrefl _)⟩, hw, hl⟩
                  intro n q H locs ls hI ih
                  obtain ⟨kk, st⟩ := q
                  obtain ⟨hn, hsk, hw, hl⟩ := hI
                  dsimp only at hn hsk hl
                  refine lv_iload hx hb dX5_passes_112 (lv_at hl 0 rfl) ?_
                  refine lv_if_lt (tgt := 160) hx hb dX5_passes_114 (by decide) (fun c_114 => ?_) (fun c_114 => ?_)
                  · skip
                    obtain rfl : kk = 0 := nI_m1_neg (by have := hsk.1; omega) c_114
                    have hstp := hsk.done
                    refine W_joini (ls := ls) 178 (fun v => (v = 1 ∧ bf = bt ∧ ii < jj) ∨ (v = 0 ∧ ¬ (bf = bt ∧ ii < jj))) [] ?_ ?_
                    · skip
                      intro bk hbk
                      refine lv_istore (lv' := [(10, .int _), (9, .int _), (8, .int _), (7, .int _), (6, .int _), (0, .ref _), (1, .int _), (2, .int _), (3, .int _), (4, .int _), (5, .int _)]) hx hb dX5_passes_178 hl (by decide) rfl (fun ls hl => ?_)
                      refine lv_iconst (v := 0) hx hb dX5_passes_180 (by decide) ?_
                      refine lv_istore (lv' := [(11, .int _), (10, .int _), (9, .int _), (8, .int _), (7, .int _), (6, .int _), (0, .ref _), (1, .int _), (2, .int _), (3, .int _), (4, .int _), (5, .int _)]) hx hb dX5_passes_181 hl (by decide) rfl (fun ls hl => ?_)
                      refine W_loop (σ := Nat) 183 (fun n (t : Nat) H locs ls => n = st - t ∧ t ≤ st ∧ wW G A s.heap (mW Y x ad (d, sc, sz, mPart sg (40 * bf + ii) (40 * bt + jj) st t bk, ik, cp, wt, wa, ch, ct, th)) H locs ∧ lv_has ls 13 [(11, .int (nI t)), (10, .int bk), (9, .int (nI st)), (8, .int (nI bt)), (7, .int (nI bf)), (6, .int (mUnl d sc p0 p2)), (0, .ref x), (1, .int p0), (2, .int (nI ii)), (3, .int p2), (4, .int (nI jj)), (5, .int (nI nn))]) ?_ (n := st) (x := 0) ⟨rfl, by omega, by rw [mPart_0]; exact hw, hl⟩
                      intro n t H locs ls hI ih2
                      obtain ⟨hn2, ht, hw, hl⟩ := hI
                      refine lv_iload hx hb dX5_passes_183 (lv_at hl 0 rfl) ?_
                      refine lv_iload hx hb dX5_passes_185 (lv_at hl 2 rfl) ?_
                      refine lv_icmp_ge (tgt := 246) hx hb dX5_passes_187 (by decide) (fun c_187 => ?_) (fun c_187 => ?_)
                      · skip
                        have htn : t = st := by
                          have := hstp.1
                          have := le_of_c (by omega) (by omega) c_187
                          omega
                        subst htn
                        refine lv_iload hx hb dX5_passes_246 (lv_at hl 2 rfl) ?_
                        refine lv_iload hx hb dX5_passes_248 (lv_at hl 11 rfl) ?_
                        refine lv_icmp_ge (tgt := 261) hx hb dX5_passes_250 (by decide) (fun c_250 => ?_) (fun c_250 => ?_)
                        · skip
                          have hst40 : t ≤ nn := hstp.1
                          refine lv_iload hx hb dX5_passes_261 (lv_at hl 11 rfl) ?_
                          exact ct_iret hx hb hr (vp_nar_int _) hlocks hK hw dX5_passes_263 (Nat.le_of_ble_eq_true rfl) (Nat.le_of_ble_eq_true rfl) ⟨_, rfl, Or.inr (Or.inr ⟨c_10, bf, bt, ii, jj, nn, nf, nt, t, hbf, hbt, ebf, ebt, rfl, rfl, rfl, enf, ent, hnf, hnt, hii, hjj, hstp, by rw [if_neg (by have := le_of_c (by omega) (by omega) c_250; omega)], mPart_st _ _ _ _ _⟩)⟩
                        · skip
                          have hst40 : t ≤ nn := hstp.1
                          refine lv_bipush (v := -10) hx hb dX5_passes_253 (by decide) ?_
                          refine lv_iload hx hb dX5_passes_255 (lv_at hl 2 rfl) ?_
                          refine lv_isub hx hb dX5_passes_257 ?_
                          refine lv_goto (tgt := 263) hx hb dX5_passes_258 (by decide) ?_
                          exact ct_iret hx hb hr (vp_nar_int _) hlocks hK hw dX5_passes_263 (Nat.le_of_ble_eq_true rfl) (Nat.le_of_ble_eq_true rfl) ⟨_, rfl, Or.inr (Or.inr ⟨c_10, bf, bt, ii, jj, nn, nf, nt, t, hbf, hbt, ebf, ebt, rfl, rfl, rfl, enf, ent, hnf, hnt, hii, hjj, hstp, by rw [if_pos (lt_of_c (by omega) (by omega) c_250)], mPart_st _ _ _ _ _⟩)⟩
                      · skip
                        have hst40 : st ≤ nn := hstp.1
                        have htn : t < st := lt_of_c (by omega) (by omega) c_187
                        refine lv_iload hx hb dX5_passes_190 (lv_at hl 1 rfl) ?_
                        refine lv_if_eq (tgt := 205) hx hb dX5_passes_192 (by decide) (fun c_192 => ?_) (fun c_192 => ?_)
                        · skip
                          refine lv_iload hx hb dX5_passes_205 (lv_at hl 0 rfl) ?_
                          refine lv_topi (fun v9 ev9 => ?_)
                          obtain rfl : v9 = nI (if bk = 1 then st - 1 - t else t) := ev9.trans (by
                            rw [if_neg (by rw [c_192]; decide)])
                          have hmm : (if bk = 1 then st - 1 - t else t) < st := by
                            by_cases q : bk = 1
                            · rw [if_pos q]; omega
                            · rw [if_neg q]; exact htn
                          obtain ⟨mm, hme⟩ : ∃ mm, mm = (if bk = 1 then st - 1 - t else t) := ⟨_, rfl⟩
                          rw [← hme] at hmm ⊢
                          refine lv_istore (lv' := [(12, .int _), (11, .int _), (10, .int _), (9, .int _), (8, .int _), (7, .int _), (6, .int _), (0, .ref _), (1, .int _), (2, .int _), (3, .int _), (4, .int _), (5, .int _)]) hx hb dX5_passes_207 hl (by decide) rfl (fun ls hl => ?_)
                          refine lv_aload_n hx hb dX5_passes_209 rfl (lv_at hl 7 rfl) ?_
                          refine m_get3 F hi hl19 hK hw dX5_passes_210 ?_
                          refine lv_bipush (v := 40) hx hb dX5_passes_213 (by decide) ?_
                          refine lv_iload hx hb dX5_passes_215 (lv_at hl 4 rfl) ?_
                          refine lv_imul hx hb dX5_passes_217 ?_
                          refine lv_iload hx hb dX5_passes_218 (lv_at hl 11 rfl) ?_
                          refine lv_iadd hx hb dX5_passes_220 ?_
                          refine lv_iload hx hb dX5_passes_221 (lv_at hl 0 rfl) ?_
                          refine lv_iadd hx hb dX5_passes_223 ?_
                          refine lv_aload_n hx hb dX5_passes_224 rfl (lv_at hl 7 rfl) ?_
                          refine m_get3 F hi hl19 hK hw dX5_passes_225 ?_
                          refine lv_bipush (v := 40) hx hb dX5_passes_228 (by decide) ?_
                          refine lv_iload hx hb dX5_passes_230 (lv_at hl 5 rfl) ?_
                          refine lv_imul hx hb dX5_passes_232 ?_
                          refine lv_iload_n hx hb dX5_passes_233 rfl (lv_at hl 9 rfl) ?_
                          refine lv_iadd hx hb dX5_passes_234 ?_
                          refine lv_iload hx hb dX5_passes_235 (lv_at hl 0 rfl) ?_
                          refine lv_iadd hx hb dX5_passes_237 ?_
                          refine m_ld3 F hK hw (in40b hbf (by omega)) dX5_passes_238 ?_
                          rw [cl40b hbf (show ii + mm < 40 by omega)]
                          refine m_st3 F hK hw (in40b hbt (by omega)) dX5_passes_239 (fun H locs hw => ?_)
                          refine lv_iinc (lv' := [(11, .int _), (12, .int _), (10, .int _), (9, .int _), (8, .int _), (7, .int _), (6, .int _), (0, .ref _), (1, .int _), (2, .int _), (3, .int _), (4, .int _), (5, .int _)]) hx hb dX5_passes_240 hl (k := 1) rfl rfl (by decide) rfl (fun ls hl => ?_)
                          refine lv_goto (tgt := 183) hx hb dX5_passes_243 (by decide) ?_
                          exact ih2 _ (t + 1) _ _ _ (by omega) ⟨rfl, by omega, by
                            have q1 := mPart_read (sg := sg) (ii := ii) (jj := jj) (st := st) (k := t) (by omega) (by omega) htn hbk
                            have q2 := mPart_step (sg := sg) (bf := bf) (bt := bt) (ii := ii) (jj := jj) (st := st) (k := t) (back := bk) htn (hbk.elim (fun h => Or.inl h.1) (fun h => Or.inr h.1))
                            rw [← hme] at q1 q2
                            rw [← q2, ← q1, ← cl40b hbt (show jj + mm < 40 by omega)]
                            exact hw, by
                            have hl := lv_sub hl [0, 2, 3, 4, 5, 6, 7, 8, 9, 10, 11, 12] rfl
                            rw [nI_succ]; exact hl⟩
                        · skip
                          refine lv_iload hx hb dX5_passes_195 (lv_at hl 2 rfl) ?_
                          refine lv_iconst (v := 1) hx hb dX5_passes_197 (by decide) ?_
                          refine lv_isub hx hb dX5_passes_198 ?_
                          refine lv_iload hx hb dX5_passes_199 (lv_at hl 0 rfl) ?_
                          refine lv_isub hx hb dX5_passes_201 ?_
                          refine lv_goto (tgt := 207) hx hb dX5_passes_202 (by decide) ?_
                          refine lv_topi (fun v9 ev9 => ?_)
                          obtain rfl : v9 = nI (if bk = 1 then st - 1 - t else t) := ev9.trans (by
                            rw [if_pos (by rcases hbk with q | q; exact q.1; exact absurd q.1 c_192), show (1 : Int32) = nI 1 from rfl, pk_sub (by omega), pk_sub (by omega)])
                          have hmm : (if bk = 1 then st - 1 - t else t) < st := by
                            by_cases q : bk = 1
                            · rw [if_pos q]; omega
                            · rw [if_neg q]; exact htn
                          obtain ⟨mm, hme⟩ : ∃ mm, mm = (if bk = 1 then st - 1 - t else t) := ⟨_, rfl⟩
                          rw [← hme] at hmm ⊢
                          refine lv_istore (lv' := [(12, .int _), (11, .int _), (10, .int _), (9, .int _), (8, .int _), (7, .int _), (6, .int _), (0, .ref _), (1, .int _), (2, .int _), (3, .int _), (4, .int _), (5, .int _)]) hx hb dX5_passes_207 hl (by decide) rfl (fun ls hl => ?_)
                          refine lv_aload_n hx hb dX5_passes_209 rfl (lv_at hl 7 rfl) ?_
                          refine m_get3 F hi hl19 hK hw dX5_passes_210 ?_
                          refine lv_bipush (v := 40) hx hb dX5_passes_213 (by decide) ?_
                          refine lv_iload hx hb dX5_passes_215 (lv_at hl 4 rfl) ?_
                          refine lv_imul hx hb dX5_passes_217 ?_
                          refine lv_iload hx hb dX5_passes_218 (lv_at hl 11 rfl) ?_
                          refine lv_iadd hx hb dX5_passes_220 ?_
                          refine lv_iload hx hb dX5_passes_221 (lv_at hl 0 rfl) ?_
                          refine lv_iadd hx hb dX5_passes_223 ?_
                          refine lv_aload_n hx hb dX5_passes_224 rfl (lv_at hl 7 rfl) ?_
                          refine m_get3 F hi hl19 hK hw dX5_passes_225 ?_
                          refine lv_bipush (v := 40) hx hb dX5_passes_228 (by decide) ?_
                          refine lv_iload hx hb dX5_passes_230 (lv_at hl 5 rfl) ?_
                          refine lv_imul hx hb dX5_passes_232 ?_
                          refine lv_iload_n hx hb dX5_passes_233 rfl (lv_at hl 9 rfl) ?_
                          refine lv_iadd hx hb dX5_passes_234 ?_
                          refine lv_iload hx hb dX5_passes_235 (lv_at hl 0 rfl) ?_
                          refine lv_iadd hx hb dX5_passes_237 ?_
                          refine m_ld3 F hK hw (in40b hbf (by omega)) dX5_passes_238 ?_
                          rw [cl40b hbf (show ii + mm < 40 by omega)]
                          refine m_st3 F hK hw (in40b hbt (by omega)) dX5_passes_239 (fun H locs hw => ?_)
                          refine lv_iinc (lv' := [(11, .int _), (12, .int _), (10, .int _), (9, .int _), (8, .int _), (7, .int _), (6, .int _), (0, .ref _), (1, .int _), (2, .int _), (3, .int _), (4, .int _), (5, .int _)]) hx hb dX5_passes_240 hl (k := 1) rfl rfl (by decide) rfl (fun ls hl => ?_)
                          refine lv_goto (tgt := 183) hx hb dX5_passes_243 (by decide) ?_
                          exact ih2 _ (t + 1) _ _ _ (by omega) ⟨rfl, by omega, by
                            have q1 := mPart_read (sg := sg) (ii := ii) (jj := jj) (st := st) (k := t) (by omega) (by omega) htn hbk
                            have q2 := mPart_step (sg := sg) (bf := bf) (bt := bt) (ii := ii) (jj := jj) (st := st) (k := t) (back := bk) htn (hbk.elim (fun h => Or.inl h.1) (fun h => Or.inr h.1))
                            rw [← hme] at q1 q2
                            rw [← q2, ← q1, ← cl40b hbt (show jj + mm < 40 by omega)]
                            exact hw, by
                            have hl := lv_sub hl [0, 2, 3, 4, 5, 6, 7, 8, 9, 10, 11, 12] rfl
                            rw [nI_succ]; exact hl⟩
                    · intro jn
                      refine lv_iload hx hb dX5_passes_160 (lv_at hl 3 rfl) ?_
                      refine lv_iload hx hb dX5_passes_162 (lv_at hl 2 rfl) ?_
                      refine lv_icmp_ne (tgt := 177) hx hb dX5_passes_164 (by decide) (fun c_164 => ?_) (fun c_164 => ?_)
                      · skip
                        refine lv_iconst (v := 0) hx hb dX5_passes_177 (by decide) ?_
                        exact jn _ (Or.inr ⟨rfl, fun q => c_164 (by rw [q.1])⟩)
                      · skip
                        refine lv_iload hx hb dX5_passes_167 (lv_at hl 9 rfl) ?_
                        refine lv_iload_n hx hb dX5_passes_169 rfl (lv_at hl 7 rfl) ?_
                        refine lv_icmp_le (tgt := 177) hx hb dX5_passes_170 (by decide) (fun c_170 => ?_) (fun c_170 => ?_)
                        · skip
                          refine lv_iconst (v := 0) hx hb dX5_passes_177 (by decide) ?_
                          exact jn _ (Or.inr ⟨rfl, fun q => absurd (le_of_c (by omega) (by omega) c_170) (by omega)⟩)
                        · skip
                          refine lv_iconst (v := 1) hx hb dX5_passes_173 (by decide) ?_
                          refine lv_goto (tgt := 178) hx hb dX5_passes_174 (by decide) ?_
                          exact jn _ (Or.inl ⟨rfl, (nI_eq (by omega) (by omega)).mp c_164, lt_of_c (by omega) (by omega) c_170⟩)
                  · skip
                    obtain ⟨k9, rfl⟩ := nI_m1_pos c_114
                    have hk9 : k9 < nn := by have := hsk.1; omega
                    refine lv_aload_n hx hb dX5_passes_117 rfl (lv_at hl 5 rfl) ?_
                    refine lv_iload hx hb dX5_passes_118 (lv_at hl 3 rfl) ?_
                    refine (c_m_isPictures l G Y x ad _ _ _ _ _ _ _ _ _ _ _ _ (nI_isD hbf)).callV F (cwV 1 hts gX5_passes_X5_isPictures rfl rfl rfl (by decide +kernel) ⟨Nat.le_of_ble_eq_true rfl, Nat.le_of_ble_eq_true rfl⟩) hK hw hA (m_recv hK hw) rfl rfl hl.1 (Nat.le_of_ble_eq_true rfl) dX5_passes_120 ⟨Nat.le_of_ble_eq_true rfl, Nat.le_of_ble_eq_true rfl⟩ (fun r_120 u_120 H locs hp_120 hw => ?_)
                    obtain ⟨rfl, ⟨hq_120, rfl⟩ | ⟨hq_120, rfl⟩⟩ := hp_120
                    · skip
                      refine lv_if_eq (tgt := 154) hx hb dX5_passes_123 (by decide) (fun c_123 => ?_) (fun c_123 => ?_)
                      · exact absurd c_123 (by decide)
                      · skip
                        refine lv_aload_n hx hb dX5_passes_126 rfl (lv_at hl 5 rfl) ?_
                        refine lv_iload hx hb dX5_passes_127 (lv_at hl 2 rfl) ?_
                        refine lv_aload_n hx hb dX5_passes_129 rfl (lv_at hl 5 rfl) ?_
                        refine m_get3 F hi hl19 hK hw dX5_passes_130 ?_
                        refine lv_bipush (v := 40) hx hb dX5_passes_133 (by decide) ?_
                        refine lv_iload hx hb dX5_passes_135 (lv_at hl 3 rfl) ?_
                        refine lv_imul hx hb dX5_passes_137 ?_
                        refine lv_iload_n hx hb dX5_passes_138 rfl (lv_at hl 7 rfl) ?_
                        refine lv_iadd hx hb dX5_passes_139 ?_
                        refine lv_iload hx hb dX5_passes_140 (lv_at hl 0 rfl) ?_
                        refine lv_iadd hx hb dX5_passes_142 ?_
                        refine m_ld3 F hK hw (by rw [nI_pred]; exact in40b hbf (by omega)) dX5_passes_143 ?_
                        rw [nI_pred, cl40b hbf (show ii + k9 < 40 by omega)]
                        refine (c_m_may l G Y x ad _ _ _ _ _ _ _ _ _ _ _ _ _ (nI_isD hbt)).callV F (cwV 2 hts gX5_passes_X5_may rfl rfl rfl (by decide +kernel) ⟨Nat.le_of_ble_eq_true rfl, Nat.le_of_ble_eq_true rfl⟩) hK hw hA (m_recv hK hw) rfl rfl hl.1 (Nat.le_of_ble_eq_true rfl) dX5_passes_144 ⟨Nat.le_of_ble_eq_true rfl, Nat.le_of_ble_eq_true rfl⟩ (fun r_144 u_144 H locs hp_144 hw => ?_)
                        obtain ⟨rfl, ⟨hq_144, rfl⟩ | ⟨hq_144, rfl⟩⟩ := hp_144
                        · skip
                          refine lv_if_ne (tgt := 154) hx hb dX5_passes_147 (by decide) (fun c_147 => ?_) (fun c_147 => ?_)
                          · skip
                            refine lv_iinc (lv' := [(10, .int _), (9, .int _), (8, .int _), (7, .int _), (6, .int _), (0, .ref _), (1, .int _), (2, .int _), (3, .int _), (4, .int _), (5, .int _)]) hx hb dX5_passes_154 hl (k := 0) rfl rfl (by decide) rfl (fun ls hl => ?_)
                            refine lv_goto (tgt := 112) hx hb dX5_passes_157 (by decide) ?_
                            exact ih _ (k9, st) _ _ _ (by omega) ⟨rfl, hsk.keep (fun hb => hb.2 (by rw [cl_nI (by omega)] at hq_144; exact hq_144)), hw, by
                              have hl := lv_sub hl [0, 1, 2, 3, 4, 5, 6, 7, 8, 9, 10] rfl
                              have e9 : nI (k9 + 1) - 1 + Int32.ofInt (-1) = nI k9 - 1 := by rw [nI_pred, show Int32.ofInt (-1) = -1 from by decide, Int32.sub_eq_add_neg]
                              simp only [nI_pred] at hl e9
                              rw [← e9]
                              exact hl⟩
                          · exact absurd c_147 (by decide)
                        · skip
                          refine lv_if_ne (tgt := 154) hx hb dX5_passes_147 (by decide) (fun c_147 => ?_) (fun c_147 => ?_)
                          · exact absurd rfl c_147
                          · skip
                            refine lv_iload hx hb dX5_passes_150 (lv_at hl 0 rfl) ?_
                            refine lv_istore (lv' := [(9, .int _), (10, .int _), (8, .int _), (7, .int _), (6, .int _), (0, .ref _), (1, .int _), (2, .int _), (3, .int _), (4, .int _), (5, .int _)]) hx hb dX5_passes_152 hl (by decide) rfl (fun ls hl => ?_)
                            refine lv_iinc (lv' := [(10, .int _), (9, .int _), (8, .int _), (7, .int _), (6, .int _), (0, .ref _), (1, .int _), (2, .int _), (3, .int _), (4, .int _), (5, .int _)]) hx hb dX5_passes_154 hl (k := 1) rfl rfl (by decide) rfl (fun ls hl => ?_)
                            refine lv_goto (tgt := 112) hx hb dX5_passes_157 (by decide) ?_
                            exact ih _ (k9, k9) _ _ _ (by omega) ⟨rfl, hsk.stop ⟨by rw [cl_nI (by omega)] at hq_120; exact hq_120, by rw [cl_nI (by omega)] at hq_144; exact hq_144⟩, hw, by
                              have hl := lv_sub hl [0, 1, 2, 3, 4, 5, 6, 7, 8, 9, 10] rfl
                              have e9 : nI (k9 + 1) - 1 + Int32.ofInt (-1) = nI k9 - 1 := by rw [nI_pred, show Int32.ofInt (-1) = -1 from by decide, Int32.sub_eq_add_neg]
                              simp only [nI_pred] at hl e9
                              rw [← e9]
                              exact hl⟩
                    · skip
                      refine lv_if_eq (tgt := 154) hx hb dX5_passes_123 (by decide) (fun c_123 => ?_) (fun c_123 => ?_)
                      · skip
                        refine lv_iinc (lv' := [(10, .int _), (9, .int _), (8, .int _), (7, .int _), (6, .int _), (0, .ref _), (1, .int _), (2, .int _), (3, .int _), (4, .int _), (5, .int _)]) hx hb dX5_passes_154 hl (k := 0) rfl rfl (by decide) rfl (fun ls hl => ?_)
                        refine lv_goto (tgt := 112) hx hb dX5_passes_157 (by decide) ?_
                        exact ih _ (k9, st) _ _ _ (by omega) ⟨rfl, hsk.keep (fun hb => hq_120 (by rw [cl_nI (by omega)]; exact hb.1)), hw, by
                          have hl := lv_sub hl [0, 1, 2, 3, 4, 5, 6, 7, 8, 9, 10] rfl
                          have e9 : nI (k9 + 1) - 1 + Int32.ofInt (-1) = nI k9 - 1 := by rw [nI_pred, show Int32.ofInt (-1) = -1 from by decide, Int32.sub_eq_add_neg]
                          simp only [nI_pred] at hl e9
                          rw [← e9]
                          exact hl⟩
                      · exact absurd rfl c_123
                · skip
                  refine lv_bipush (v := -3) hx hb dX5_passes_99 (by decide) ?_
                  exact ct_iret hx hb hr (vp_nar_int _) hlocks hK hw dX5_passes_101 (Nat.le_of_ble_eq_true rfl) (Nat.le_of_ble_eq_true rfl) ⟨_, rfl, Or.inr (Or.inl ⟨c_10, by rw [e3, e4]; exact fun h => c_96 h.2.2.2.2.2.2, rfl, rfl⟩)⟩
  · skip
    refine lv_iload hx hb dX5_passes_13 (lv_at hl 0 rfl) ?_
    exact ct_iret hx hb hr (vp_nar_int _) hlocks hK hw dX5_passes_15 (Nat.le_of_ble_eq_true rfl) (Nat.le_of_ble_eq_true rfl) ⟨_, rfl, Or.inl ⟨c_10, rfl, rfl⟩⟩

set_option maxHeartbeats 4000000 in
set_option maxRecDepth 100000 in
theorem c_m_copy (l : Launch) (G : va_G) (Y : Nat → ClassId) (x : Nat) (ad : Nat → Nat) (d sc sz : Nat → Int32) (sg : Nat → Int64) (ik cp wt wa ch ct : Nat → Int32) (th : Int32) (p0 : Int32) (p1 : Int32) (p2 : Int32) (p3 : Int32) (p4 : Int32) (p5 : Int32) (hd : dOK d) (hz : zOK sz) (c0 : Nat) (hc0 : c0OK ct c0) : ctI l G Y (mW Y x ad) yX5_copy wsX5_copy ({ frames := 2, cells := 0, slots := 0, locals := 120 }) [.ref x, .int p0, .int p1, .int p2, .int p3, .int p4, .int p5] (d, sc, sz, sg, ik, cp, wt, wa, ch, ct, th) (fun r u' => mCopyP (d, sc, sz, sg, ik, cp, wt, wa, ch, ct, th) p0 p1 p2 p3 p4 p5 r u') := by
  refine ctI.of (cc := cX5_copy) (maxL := 10) (ret := (some .int)) (by decide) rfl (Nat.le_of_ble_eq_true rfl) ?_
  intro A p e s m below meth c ls hB
  obtain ⟨F, hr, hlocks, hnm, hK, hA, hw, hl⟩ := hB
  obtain ⟨hx, hb, hml, hown, hts⟩ := id F
  have hl : lv_has ls 10 [(0, .ref x), (1, .int p0), (2, .int p1), (3, .int p2), (4, .int p3), (5, .int p4), (6, .int p5)] := hl
  have hi : ∀ w ∈ wsX50, w ∈ wsX5_copy := by decide +kernel
  have hl23 : Cond.fieldLink RX5 23 "ScriptoriumModel" "ink" "[I" ∈ wsX5_copy := by decide +kernel
  have hl26 : Cond.fieldLink RX5 26 "ScriptoriumModel" "copied" "[I" ∈ wsX5_copy := by decide +kernel
  have hl35 : Cond.fieldLink RX5 35 "ScriptoriumModel" "chronicle" "[I" ∈ wsX5_copy := by decide +kernel
  have hl38 : Cond.fieldLink RX5 38 "ScriptoriumModel" "counts" "[I" ∈ wsX5_copy := by decide +kernel
  have hl41 : Cond.fieldLink RX5 41 "ScriptoriumModel" "thrown" "I" ∈ wsX5_copy := by decide +kernel
  refine lv_aload_n hx hb dX5_copy_0 rfl (lv_at hl 0 rfl) ?_
  refine lv_iconst (v := 0) hx hb dX5_copy_1 (by decide) ?_
  refine m_put10 F hi hl41 hK hw dX5_copy_2 (fun H locs hw => ?_)
  refine lv_iload_n hx hb dX5_copy_5 rfl (lv_at hl 1 rfl) ?_
  refine (c_m_isScribe l G Y x ad _ _ _ _ _ _ _ _ _ _ _ _).callS F (va_cwS 1 hts gX5_copy_X5_isScribe rfl rfl rfl (by decide +kernel) ⟨Nat.le_of_ble_eq_true rfl, Nat.le_of_ble_eq_true rfl⟩) hK hw hA rfl rfl hl.1 (Nat.le_of_ble_eq_true rfl) dX5_copy_6 ⟨Nat.le_of_ble_eq_true rfl, Nat.le_of_ble_eq_true rfl⟩ (fun r_6 u_6 H locs hp_6 hw => ?_)
  obtain ⟨rfl, ⟨hq_6, rfl⟩ | ⟨hq_6, rfl⟩⟩ := hp_6
  · skip
    refine lv_if_eq (tgt := 27) hx hb dX5_copy_9 (by decide) (fun c_9 => ?_) (fun c_9 => ?_)
    · exact absurd c_9 (by decide)
    · skip
      refine lv_iload_n hx hb dX5_copy_12 rfl (lv_at hl 2 rfl) ?_
      refine (c_m_isDesk l G Y x ad _ _ _ _ _ _ _ _ _ _ _ _).callS F (va_cwS 1 hts gX5_copy_X5_isDesk rfl rfl rfl (by decide +kernel) ⟨Nat.le_of_ble_eq_true rfl, Nat.le_of_ble_eq_true rfl⟩) hK hw hA rfl rfl hl.1 (Nat.le_of_ble_eq_true rfl) dX5_copy_13 ⟨Nat.le_of_ble_eq_true rfl, Nat.le_of_ble_eq_true rfl⟩ (fun r_13 u_13 H locs hp_13 hw => ?_)
      obtain ⟨rfl, ⟨hq_13, rfl⟩ | ⟨hq_13, rfl⟩⟩ := hp_13
      · skip
        refine lv_if_eq (tgt := 27) hx hb dX5_copy_16 (by decide) (fun c_16 => ?_) (fun c_16 => ?_)
        · exact absurd c_16 (by decide)
        · skip
          refine lv_iload hx hb dX5_copy_19 (lv_at hl 4 rfl) ?_
          refine (c_m_isDesk l G Y x ad _ _ _ _ _ _ _ _ _ _ _ _).callS F (va_cwS 1 hts gX5_copy_X5_isDesk rfl rfl rfl (by decide +kernel) ⟨Nat.le_of_ble_eq_true rfl, Nat.le_of_ble_eq_true rfl⟩) hK hw hA rfl rfl hl.1 (Nat.le_of_ble_eq_true rfl) dX5_copy_21 ⟨Nat.le_of_ble_eq_true rfl, Nat.le_of_ble_eq_true rfl⟩ (fun r_21 u_21 H locs hp_21 hw => ?_)
          obtain ⟨rfl, ⟨hq_21, rfl⟩ | ⟨hq_21, rfl⟩⟩ := hp_21
          · skip
            refine lv_if_ne (tgt := 30) hx hb dX5_copy_24 (by decide) (fun c_24 => ?_) (fun c_24 => ?_)
            · skip
              refine lv_aload_n hx hb dX5_copy_30 rfl (lv_at hl 0 rfl) ?_
              refine m_get4 F hi hl23 hK hw dX5_copy_31 ?_
              refine lv_iload_n hx hb dX5_copy_34 rfl (lv_at hl 1 rfl) ?_
              refine m_ld4 F hK hw hq_6.in dX5_copy_35 ?_
              refine lv_iload hx hb dX5_copy_36 (lv_at hl 6 rfl) ?_
              refine lv_icmp_ge (tgt := 44) hx hb dX5_copy_38 (by decide) (fun c_38 => ?_) (fun c_38 => ?_)
              · skip
                refine lv_aload_n hx hb dX5_copy_44 rfl (lv_at hl 0 rfl) ?_
                refine lv_iload_n hx hb dX5_copy_45 rfl (lv_at hl 2 rfl) ?_
                refine lv_iload_n hx hb dX5_copy_46 rfl (lv_at hl 3 rfl) ?_
                refine lv_iload hx hb dX5_copy_47 (lv_at hl 4 rfl) ?_
                refine lv_iload hx hb dX5_copy_49 (lv_at hl 5 rfl) ?_
                refine lv_iload hx hb dX5_copy_51 (lv_at hl 6 rfl) ?_
                refine (c_m_passes l G Y x ad _ _ _ _ _ _ _ _ _ _ _ _ _ _ _ _ hd hz hq_13 hq_21).callV F (cwV 5 hts gX5_copy_X5_passes rfl rfl rfl (by decide +kernel) ⟨Nat.le_of_ble_eq_true rfl, Nat.le_of_ble_eq_true rfl⟩) hK hw hA (m_recv hK hw) rfl rfl hl.1 (Nat.le_of_ble_eq_true rfl) dX5_copy_53 ⟨Nat.le_of_ble_eq_true rfl, Nat.le_of_ble_eq_true rfl⟩ (fun r_53 u_53 H locs hp_53 hw => ?_)
                obtain ⟨sg', rfl, hpp⟩ := hp_53
                refine lv_istore (lv' := [(7, .int _), (0, .ref _), (1, .int _), (2, .int _), (3, .int _), (4, .int _), (5, .int _), (6, .int _)]) hx hb dX5_copy_56 hl (by decide) rfl (fun ls hl => ?_)
                refine W_joini (ls := ls) 84 (fun v => v = mDone r_53) [] ?_ ?_
                · skip
                  intro dn edn
                  subst edn
                  refine lv_istore (lv' := [(8, .int _), (7, .int _), (0, .ref _), (1, .int _), (2, .int _), (3, .int _), (4, .int _), (5, .int _), (6, .int _)]) hx hb dX5_copy_84 hl (by decide) rfl (fun ls hl => ?_)
                  refine lv_aload_n hx hb dX5_copy_86 rfl (lv_at hl 2 rfl) ?_
                  refine m_get4 F hi hl23 hK hw dX5_copy_87 ?_
                  refine lv_iload_n hx hb dX5_copy_90 rfl (lv_at hl 3 rfl) ?_
                  refine lv_dup2_11 hx hb dX5_copy_91 rfl rfl ?_
                  refine m_ld4 F hK hw hq_6.in dX5_copy_92 ?_
                  refine lv_iload hx hb dX5_copy_93 (lv_at hl 0 rfl) ?_
                  refine lv_isub hx hb dX5_copy_95 ?_
                  refine m_st4 F hK hw hq_6.in dX5_copy_96 (fun H locs hw => ?_)
                  refine lv_aload_n hx hb dX5_copy_97 rfl (lv_at hl 2 rfl) ?_
                  refine m_get5 F hi hl26 hK hw dX5_copy_98 ?_
                  refine lv_iload_n hx hb dX5_copy_101 rfl (lv_at hl 3 rfl) ?_
                  refine lv_dup2_11 hx hb dX5_copy_102 rfl rfl ?_
                  refine m_ld5 F hK hw hq_6.in dX5_copy_103 ?_
                  refine lv_iload hx hb dX5_copy_104 (lv_at hl 0 rfl) ?_
                  refine lv_iadd hx hb dX5_copy_106 ?_
                  refine m_st5 F hK hw hq_6.in dX5_copy_107 (fun H locs hw => ?_)
                  refine lv_aload_n hx hb dX5_copy_108 rfl (lv_at hl 2 rfl) ?_
                  refine m_get9 F hi hl38 hK hw dX5_copy_109 ?_
                  refine lv_bipush (v := 6) hx hb dX5_copy_112 (by decide) ?_
                  refine lv_dup2_11 hx hb dX5_copy_114 rfl rfl ?_
                  refine m_ld9 F hK hw (vp_in_nI (n := 6) (by decide) (by decide)) dX5_copy_115 ?_
                  refine lv_iload hx hb dX5_copy_116 (lv_at hl 0 rfl) ?_
                  refine lv_iadd hx hb dX5_copy_118 ?_
                  refine m_st9 F hK hw (vp_in_nI (n := 6) (by decide) (by decide)) dX5_copy_119 (fun H locs hw => ?_)
                  refine lv_aload_n hx hb dX5_copy_120 rfl (lv_at hl 2 rfl) ?_
                  refine m_get9 F hi hl38 hK hw dX5_copy_121 ?_
                  refine lv_iconst (v := 0) hx hb dX5_copy_124 (by decide) ?_
                  refine m_ld9 F hK hw (vp_in_nI (n := 0) (by decide) (by decide)) dX5_copy_125 ?_
                  refine lv_bipush (v := 16) hx hb dX5_copy_126 (by decide) ?_
                  refine lv_irem hx hb dX5_copy_128 (by decide) ?_
                  refine lv_topi (fun at_ eat => ?_)
                  obtain rfl : at_ = mAt ct := eat
                  refine lv_istore (lv' := [(9, .int _), (8, .int _), (7, .int _), (0, .ref _), (1, .int _), (2, .int _), (3, .int _), (4, .int _), (5, .int _), (6, .int _)]) hx hb dX5_copy_129 hl (by decide) rfl (fun ls hl => ?_)
                  refine lv_aload_n hx hb dX5_copy_131 rfl (lv_at hl 3 rfl) ?_
                  refine m_get8 F hi hl35 hK hw dX5_copy_132 ?_
                  refine lv_iconst (v := 4) hx hb dX5_copy_135 (by decide) ?_
                  refine lv_iload hx hb dX5_copy_136 (lv_at hl 0 rfl) ?_
                  refine lv_imul hx hb dX5_copy_138 ?_
                  refine lv_iload_n hx hb dX5_copy_139 rfl (lv_at hl 4 rfl) ?_
                  refine m_st8 F hK hw (in4' hc0) dX5_copy_140 (fun H locs hw => ?_)
                  refine lv_aload_n hx hb dX5_copy_141 rfl (lv_at hl 3 rfl) ?_
                  refine m_get8 F hi hl35 hK hw dX5_copy_142 ?_
                  refine lv_iconst (v := 4) hx hb dX5_copy_145 (by decide) ?_
                  refine lv_iload hx hb dX5_copy_146 (lv_at hl 0 rfl) ?_
                  refine lv_imul hx hb dX5_copy_148 ?_
                  refine lv_iconst (v := 1) hx hb dX5_copy_149 (by decide) ?_
                  refine lv_iadd hx hb dX5_copy_150 ?_
                  refine lv_iload_n hx hb dX5_copy_151 rfl (lv_at hl 5 rfl) ?_
                  refine m_st8 F hK hw (in4 hc0 1 (by decide)) dX5_copy_152 (fun H locs hw => ?_)
                  refine lv_aload_n hx hb dX5_copy_153 rfl (lv_at hl 3 rfl) ?_
                  refine m_get8 F hi hl35 hK hw dX5_copy_154 ?_
                  refine lv_iconst (v := 4) hx hb dX5_copy_157 (by decide) ?_
                  refine lv_iload hx hb dX5_copy_158 (lv_at hl 0 rfl) ?_
                  refine lv_imul hx hb dX5_copy_160 ?_
                  refine lv_iconst (v := 2) hx hb dX5_copy_161 (by decide) ?_
                  refine lv_iadd hx hb dX5_copy_162 ?_
                  refine lv_iload hx hb dX5_copy_163 (lv_at hl 7 rfl) ?_
                  refine m_st8 F hK hw (in4 hc0 2 (by decide)) dX5_copy_165 (fun H locs hw => ?_)
                  refine lv_aload_n hx hb dX5_copy_166 rfl (lv_at hl 3 rfl) ?_
                  refine m_get8 F hi hl35 hK hw dX5_copy_167 ?_
                  refine lv_iconst (v := 4) hx hb dX5_copy_170 (by decide) ?_
                  refine lv_iload hx hb dX5_copy_171 (lv_at hl 0 rfl) ?_
                  refine lv_imul hx hb dX5_copy_173 ?_
                  refine lv_iconst (v := 3) hx hb dX5_copy_174 (by decide) ?_
                  refine lv_iadd hx hb dX5_copy_175 ?_
                  refine lv_iload hx hb dX5_copy_176 (lv_at hl 2 rfl) ?_
                  refine m_st8 F hK hw (in4 hc0 3 (by decide)) dX5_copy_178 (fun H locs hw => ?_)
                  refine lv_aload_n hx hb dX5_copy_179 rfl (lv_at hl 3 rfl) ?_
                  refine m_get9 F hi hl38 hK hw dX5_copy_180 ?_
                  refine lv_iconst (v := 0) hx hb dX5_copy_183 (by decide) ?_
                  refine lv_dup2_11 hx hb dX5_copy_184 rfl rfl ?_
                  refine m_ld9 F hK hw (vp_in_nI (n := 0) (by decide) (by decide)) dX5_copy_185 ?_
                  refine lv_iconst (v := 1) hx hb dX5_copy_186 (by decide) ?_
                  refine lv_iadd hx hb dX5_copy_187 ?_
                  refine m_st9 F hK hw (vp_in_nI (n := 0) (by decide) (by decide)) dX5_copy_188 (fun H locs hw => ?_)
                  refine lv_aload_n hx hb dX5_copy_189 rfl (lv_at hl 3 rfl) ?_
                  refine m_get9 F hi hl38 hK hw dX5_copy_190 ?_
                  refine W_joini (ls := ls) 217 (fun v => v = mTal r_53) [.ref (ad 9)] ?_ ?_
                  · skip
                    intro tl etl
                    subst etl
                    refine lv_dup2_11 hx hb dX5_copy_217 rfl rfl ?_
                    refine m_ld9 F hK hw (mTal_in (mPass_rng hpp)) dX5_copy_218 ?_
                    refine lv_iconst (v := 1) hx hb dX5_copy_219 (by decide) ?_
                    refine lv_iadd hx hb dX5_copy_220 ?_
                    refine m_st9 F hK hw (mTal_in (mPass_rng hpp)) dX5_copy_221 (fun H locs hw => ?_)
                    refine lv_iload hx hb dX5_copy_222 (lv_at hl 2 rfl) ?_
                    exact ct_iret hx hb hr (vp_nar_int _) hlocks hK hw dX5_copy_224 (Nat.le_of_ble_eq_true rfl) (Nat.le_of_ble_eq_true rfl) (Or.inr (Or.inr ⟨⟨hq_6, hq_13, hq_21⟩, Int32.not_lt.mpr c_38, sg', hpp, rfl⟩))
                  · intro jn2
                    refine lv_iload hx hb dX5_copy_193 (lv_at hl 2 rfl) ?_
                    refine lv_if_lt (tgt := 202) hx hb dX5_copy_195 (by decide) (fun c_195 => ?_) (fun c_195 => ?_)
                    · skip
                      refine lv_iload hx hb dX5_copy_202 (lv_at hl 2 rfl) ?_
                      refine lv_bipush (v := -10) hx hb dX5_copy_204 (by decide) ?_
                      refine lv_icmp_gt (tgt := 213) hx hb dX5_copy_206 (by decide) (fun c_206 => ?_) (fun c_206 => ?_)
                      · skip
                        refine lv_iconst (v := 1) hx hb dX5_copy_213 (by decide) ?_
                        refine lv_iload hx hb dX5_copy_214 (lv_at hl 2 rfl) ?_
                        refine lv_isub hx hb dX5_copy_216 ?_
                        exact jn2 _ (by unfold mTal; rw [if_neg (fun q => q c_195), if_neg (Int32.not_le.mpr c_206)])
                      · skip
                        refine lv_iconst (v := 5) hx hb dX5_copy_209 (by decide) ?_
                        refine lv_goto (tgt := 217) hx hb dX5_copy_210 (by decide) ?_
                        exact jn2 _ (by unfold mTal; rw [if_neg (fun q => q c_195), if_pos (Int32.not_lt.mp c_206)])
                    · skip
                      refine lv_iconst (v := 1) hx hb dX5_copy_198 (by decide) ?_
                      refine lv_goto (tgt := 217) hx hb dX5_copy_199 (by decide) ?_
                      exact jn2 _ (by unfold mTal; rw [if_pos c_195])
                · intro jn
                  refine lv_iload hx hb dX5_copy_58 (lv_at hl 0 rfl) ?_
                  refine lv_bipush (v := -10) hx hb dX5_copy_60 (by decide) ?_
                  refine lv_icmp_gt (tgt := 73) hx hb dX5_copy_62 (by decide) (fun c_62 => ?_) (fun c_62 => ?_)
                  · skip
                    refine lv_iload hx hb dX5_copy_73 (lv_at hl 0 rfl) ?_
                    refine lv_if_le (tgt := 83) hx hb dX5_copy_75 (by decide) (fun c_75 => ?_) (fun c_75 => ?_)
                    · skip
                      refine lv_iconst (v := 0) hx hb dX5_copy_83 (by decide) ?_
                      exact jn _ (by unfold mDone; rw [if_neg (Int32.not_le.mpr c_62), if_neg (Int32.not_lt.mpr c_75)])
                    · skip
                      refine lv_iload hx hb dX5_copy_78 (lv_at hl 0 rfl) ?_
                      refine lv_goto (tgt := 84) hx hb dX5_copy_80 (by decide) ?_
                      exact jn _ (by unfold mDone; rw [if_neg (Int32.not_le.mpr c_62), if_pos (Int32.not_le.mp c_75)])
                  · skip
                    refine lv_bipush (v := -10) hx hb dX5_copy_65 (by decide) ?_
                    refine lv_iload hx hb dX5_copy_67 (lv_at hl 0 rfl) ?_
                    refine lv_isub hx hb dX5_copy_69 ?_
                    refine lv_goto (tgt := 84) hx hb dX5_copy_70 (by decide) ?_
                    exact jn _ (by unfold mDone; rw [if_pos (Int32.not_lt.mp c_62)])
              · skip
                refine lv_bipush (v := -50) hx hb dX5_copy_41 (by decide) ?_
                exact ct_iret hx hb hr (vp_nar_int _) hlocks hK hw dX5_copy_43 (Nat.le_of_ble_eq_true rfl) (Nat.le_of_ble_eq_true rfl) (Or.inr (Or.inl ⟨⟨hq_6, hq_13, hq_21⟩, Int32.not_le.mp c_38, rfl, rfl⟩))
            · exact absurd c_24 (by decide)
          · skip
            refine lv_if_ne (tgt := 30) hx hb dX5_copy_24 (by decide) (fun c_24 => ?_) (fun c_24 => ?_)
            · exact absurd rfl c_24
            · skip
              refine lv_bipush (v := -99) hx hb dX5_copy_27 (by decide) ?_
              exact ct_iret hx hb hr (vp_nar_int _) hlocks hK hw dX5_copy_29 (Nat.le_of_ble_eq_true rfl) (Nat.le_of_ble_eq_true rfl) (Or.inl ⟨fun h => hq_21 h.2.2, rfl, rfl⟩)
      · skip
        refine lv_if_eq (tgt := 27) hx hb dX5_copy_16 (by decide) (fun c_16 => ?_) (fun c_16 => ?_)
        · skip
          refine lv_bipush (v := -99) hx hb dX5_copy_27 (by decide) ?_
          exact ct_iret hx hb hr (vp_nar_int _) hlocks hK hw dX5_copy_29 (Nat.le_of_ble_eq_true rfl) (Nat.le_of_ble_eq_true rfl) (Or.inl ⟨fun h => hq_13 h.2.1, rfl, rfl⟩)
        · exact absurd rfl c_16
  · skip
    refine lv_if_eq (tgt := 27) hx hb dX5_copy_9 (by decide) (fun c_9 => ?_) (fun c_9 => ?_)
    · skip
      refine lv_bipush (v := -99) hx hb dX5_copy_27 (by decide) ?_
      exact ct_iret hx hb hr (vp_nar_int _) hlocks hK hw dX5_copy_29 (Nat.le_of_ble_eq_true rfl) (Nat.le_of_ble_eq_true rfl) (Or.inl ⟨fun h => hq_6 h.1, rfl, rfl⟩)
    · exact absurd rfl c_9
end
section
/-- the waiting orders of a scribe move up -/
def mShift (wt : Nat → Int32) (a n : Nat) : Nat → Int32 := fun q => if a ≤ q ∧ q < a + n then wt (q + 5) else wt q
theorem mShift_0 (wt : Nat → Int32) (a : Nat) : mShift wt a 0 = wt := by
  funext q; unfold mShift; rw [if_neg (by omega)]
theorem mShift_at (wt : Nat → Int32) (a k : Nat) : mShift wt a k (a + k + 5) = wt (a + k + 5) := by
  unfold mShift; rw [if_neg (by omega)]
theorem mShift_s (wt : Nat → Int32) (a k : Nat) : upd (mShift wt a k) (a + k) (wt (a + k + 5)) = mShift wt a (k + 1) := by
  funext q; unfold mShift upd
  by_cases h : q = a + k
  · rw [if_pos h, if_pos (by omega), h]
  · rw [if_neg h]; dsimp only
    by_cases h2 : a ≤ q ∧ q < a + k
    · rw [if_pos h2, if_pos (by omega)]
    · rw [if_neg h2, if_neg (by omega)]
def mDayStep (s : Nat) (u u' : MS) (i : Nat) : Prop := match u with
  | (d, sc, sz, sg, ik, cp, wt, wa, ch, ct, th) =>
    (wa s = 0 ∧ u' = u ∧ i = 0) ∨
    (¬ wa s = 0 ∧ ∃ (r : Int32) (u1 : MS), mCopyP u (nI s) (wt (40 * s)) (wt (40 * s + 1)) (wt (40 * s + 2)) (wt (40 * s + 3)) (wt (40 * s + 4)) r u1 ∧
      ((r = -50 ∧ u' = u1 ∧ i = 0) ∨ (¬ r = -50 ∧ i = 1 ∧ match u1 with
        | (d1, sc1, sz1, sg1, ik1, cp1, wt1, wa1, ch1, ct1, th1) => ∃ w : Nat, wa s = nI (w + 1) ∧ w < 8 ∧ u' = (d1, sc1, sz1, sg1, ik1, cp1, mShift wt1 (40 * s) (5 * w), upd wa1 s (nI w), ch1, ct1, th1))))
def mDayN : Nat → MS → MS → Nat → Prop
  | 0, u, u', n => u' = u ∧ n = 0
  | k + 1, u, u', n => ∃ (u1 : MS) (n1 i : Nat), mDayN k u u1 n1 ∧ mDayStep k u1 u' i ∧ n = n1 + i
def mI (u : MS) (c : Nat) : Prop := match u with
  | (d, _, sz, _, _, _, _, wa, _, ct, th) => dOK d ∧ zOK sz ∧ wOK wa ∧ th = 0 ∧ ∃ c', c0OK ct c' ∧ c' ≤ c
theorem mTal_ne {r : Int32} (h : r = -1 ∨ r = -2 ∨ r = -3 ∨ (∃ k : Nat, k ≤ 40 ∧ r = nI k) ∨ (∃ k : Nat, k < 40 ∧ r = -10 - nI k)) : ∃ k, 1 ≤ k ∧ k ≤ 5 ∧ mTal r = nI k := by
  rcases h with rfl | rfl | rfl | ⟨k, hk, rfl⟩ | ⟨k, hk, rfl⟩
  · exact ⟨2, by decide, by decide, by decide⟩
  · exact ⟨3, by decide, by decide, by decide⟩
  · exact ⟨4, by decide, by decide, by decide⟩
  · exact ⟨1, by decide, by decide, by unfold mTal; rw [if_pos (nI_pos (by omega))]; rfl⟩
  · have h1 := (m10 ⟨k, by omega⟩).2
    exact ⟨5, by decide, by decide, by unfold mTal; rw [if_neg (fun q => q (Int32.lt_of_le_of_lt h1 (by decide))), if_pos h1]; rfl⟩
theorem mCt_0 {ct : Nat → Int32} {r : Int32} (h : r = -1 ∨ r = -2 ∨ r = -3 ∨ (∃ k : Nat, k ≤ 40 ∧ r = nI k) ∨ (∃ k : Nat, k < 40 ∧ r = -10 - nI k)) : mCt ct r 0 = ct 0 + 1 := by
  obtain ⟨k, h1, h2, e⟩ := mTal_ne h
  unfold mCt
  rw [e, cl_nI (by omega), pk_un (by omega), pk_us]
theorem mCopy_keep {d sc sz : Nat → Int32} {sg : Nat → Int64} {ik cp wt wa ch ct : Nat → Int32} {th p0 p1 p2 p3 p4 p5 r : Int32} {u' : MS} (h : mCopyP (d, sc, sz, sg, ik, cp, wt, wa, ch, ct, th) p0 p1 p2 p3 p4 p5 r u') : ∃ (sg' : Nat → Int64) (ik' cp' ch' ct' : Nat → Int32), u' = (d, sc, sz, sg', ik', cp', wt, wa, ch', ct', 0) ∧ (ct' 0 = ct 0 ∨ ct' 0 = ct 0 + 1) := by
  rcases h with ⟨-, -, rfl⟩ | ⟨-, -, -, rfl⟩ | ⟨-, -, sg', hp, rfl⟩
  · exact ⟨sg, ik, cp, ch, ct, rfl, Or.inl rfl⟩
  · exact ⟨sg, ik, cp, ch, ct, rfl, Or.inl rfl⟩
  · exact ⟨sg', _, _, _, _, rfl, Or.inr (mCt_0 (mPass_rng hp))⟩
theorem c0_next {ct ct' : Nat → Int32} {c c0 : Nat} (h : c0OK ct c) (hc : c ≤ c0) (hb : c0 + 1 < 2 ^ 30) (e : ct' 0 = ct 0 ∨ ct' 0 = ct 0 + 1) : ∃ c', c0OK ct' c' ∧ c' ≤ c0 + 1 := by
  rcases e with e | e
  · exact ⟨c, ⟨e.trans h.1, h.2⟩, by omega⟩
  · exact ⟨c + 1, ⟨by rw [e, h.1, nI_1], by omega⟩, by omega⟩
theorem wOK_dec {wa : Nat → Int32} (h : wOK wa) {s w : Nat} (hw : w < 8) : wOK (upd wa s (nI w)) := by
  intro s' hs'
  by_cases e : s' = s
  · subst e; exact ⟨w, by omega, pk_us⟩
  · rw [pk_un e]; exact h s' hs'
theorem wOK_pos {wa : Nat → Int32} (h : wOK wa) {s : Nat} (hs : s < 3) (hn : ¬ wa s = 0) : ∃ w, w < 8 ∧ wa s = nI (w + 1) := by
  obtain ⟨w, h1, h2⟩ := h s hs
  rcases w with _ | w
  · exact absurd (h2.trans nI_0) hn
  · exact ⟨w, by omega, h2⟩
theorem in120 {k : Nat} (h : k < 120) : vp_in (nI k) 120 := vp_in_nI h (by decide)
theorem nI5 (s k : Nat) : nI s + nI k = nI (s + k) := nI_add s k
theorem mul40 (s : Nat) : (40 : Int32) * nI s = nI (40 * s) := by rw [show (40 : Int32) = nI 40 from rfl, pk_mul]
theorem mul5 (s : Nat) : (5 : Int32) * nI s = nI (5 * s) := by rw [show (5 : Int32) = nI 5 from rfl, pk_mul]
end
section
set_option maxHeartbeats 4000000 in
set_option maxRecDepth 100000 in
theorem c_m_day (l : Launch) (G : va_G) (Y : Nat → ClassId) (x : Nat) (ad : Nat → Nat) (d sc sz : Nat → Int32) (sg : Nat → Int64) (ik cp wt wa ch ct : Nat → Int32) (th : Int32)  (hd : dOK d) (hz : zOK sz) (hwa : wOK wa) (c00 : Nat) (hc0 : c0OK ct c00) (hcb : c00 + 4 < 2 ^ 30) : ctI l G Y (mW Y x ad) yX5_day wsX5_day ({ frames := 3, cells := 0, slots := 0, locals := 180 }) [.ref x] (d, sc, sz, sg, ik, cp, wt, wa, ch, ct, th) (fun r u' => ∃ n, mDayN 3 (d, sc, sz, sg, ik, cp, wt, wa, ch, ct, 0) u' n ∧ r = nI n) := by
  refine ctI.of (cc := cX5_day) (maxL := 5) (ret := (some .int)) (by decide) rfl (Nat.le_of_ble_eq_true rfl) ?_
  intro A p e s m below meth c ls hB
  obtain ⟨F, hr, hlocks, hnm, hK, hA, hw, hl⟩ := hB
  obtain ⟨hx, hb, hml, hown, hts⟩ := id F
  have hl : lv_has ls 5 [(0, .ref x)] := hl
  have hi : ∀ w ∈ wsX50, w ∈ wsX5_day := by decide +kernel
  have hl29 : Cond.fieldLink RX5 29 "ScriptoriumModel" "wait" "[I" ∈ wsX5_day := by decide +kernel
  have hl32 : Cond.fieldLink RX5 32 "ScriptoriumModel" "waits" "[I" ∈ wsX5_day := by decide +kernel
  have hl41 : Cond.fieldLink RX5 41 "ScriptoriumModel" "thrown" "I" ∈ wsX5_day := by decide +kernel
  refine lv_aload_n hx hb dX5_day_0 rfl (lv_at hl 0 rfl) ?_
  refine lv_iconst (v := 0) hx hb dX5_day_1 (by decide) ?_
  refine m_put10 F hi hl41 hK hw dX5_day_2 (fun H locs hw => ?_)
  refine lv_iconst (v := 0) hx hb dX5_day_5 (by decide) ?_
  refine lv_istore_n (lv' := [(1, .int _), (0, .ref _)]) hx hb dX5_day_6 rfl hl (by decide) rfl (fun ls hl => ?_)
  refine lv_iconst (v := 0) hx hb dX5_day_7 (by decide) ?_
  refine lv_istore_n (lv' := [(2, .int _), (1, .int _), (0, .ref _)]) hx hb dX5_day_8 rfl hl (by decide) rfl (fun ls hl => ?_)
  obtain ⟨U9, hU9⟩ : ∃ U9 : MS, U9 = (d, sc, sz, sg, ik, cp, wt, wa, ch, ct, 0) := ⟨_, rfl⟩
  refine W_loop (σ := Nat × Nat × MS) 9 (fun n (q : Nat × Nat × MS) H locs ls => n = 3 - q.1 ∧ q.1 ≤ 3 ∧ mDayN q.1 U9 q.2.2 q.2.1 ∧ mI q.2.2 (c00 + q.1) ∧ wW G A s.heap (mW Y x ad q.2.2) H locs ∧ lv_has ls 5 [(2, .int (nI q.1)), (1, .int (nI q.2.1)), (0, .ref x)]) ?_ (n := 3) (x := (0, 0, (d, sc, sz, sg, ik, cp, wt, wa, ch, ct, 0))) ⟨rfl, by omega, ⟨hU9.symm, rfl⟩, ⟨hd, hz, hwa, rfl, c00, hc0, Nat.le_refl _⟩, hw, hl⟩
  intro n q H locs ls hI ih
  obtain ⟨sn, dn, d, sc, sz, sg, ik, cp, wt, wa, ch, ct, th⟩ := q
  obtain ⟨hn, hsn, hN, ⟨hd, hz, hwa, hth, c9, hc9, hc9b⟩, hw, hl⟩ := hI
  dsimp only at hn hsn hN hc9b hw hl
  refine lv_iload_n hx hb dX5_day_9 rfl (lv_at hl 0 rfl) ?_
  refine lv_iconst (v := 3) hx hb dX5_day_10 (by decide) ?_
  refine lv_icmp_ge (tgt := 140) hx hb dX5_day_11 (by decide) (fun c_11 => ?_) (fun c_11 => ?_)
  · skip
    have hs3 : sn = 3 := by
      have := le_of_c (a := 3) (by decide) (by omega) c_11
      omega
    subst hs3
    refine lv_iload_n hx hb dX5_day_140 rfl (lv_at hl 1 rfl) ?_
    exact ct_iret hx hb hr (vp_nar_int _) hlocks hK hw dX5_day_141 (Nat.le_of_ble_eq_true rfl) (Nat.le_of_ble_eq_true rfl) ⟨dn, by rw [← hU9]; exact hN, rfl⟩
  · skip
    have hs3 : sn < 3 := lt_of_c (a := 3) (by decide) (by omega) c_11
    have hcs : cl (nI sn) = sn := cl_nI (by omega)
    refine lv_bipush (v := 40) hx hb dX5_day_14 (by decide) ?_
    refine lv_iload_n hx hb dX5_day_16 rfl (lv_at hl 0 rfl) ?_
    refine lv_imul hx hb dX5_day_17 ?_
    rw [mul40]
    refine lv_istore_n (lv' := [(3, .int _), (2, .int _), (1, .int _), (0, .ref _)]) hx hb dX5_day_18 rfl hl (by decide) rfl (fun ls hl => ?_)
    refine lv_aload_n hx hb dX5_day_19 rfl (lv_at hl 3 rfl) ?_
    refine m_get7 F hi hl32 hK hw dX5_day_20 ?_
    refine lv_iload_n hx hb dX5_day_23 rfl (lv_at hl 1 rfl) ?_
    refine m_ld7 F hK hw (nI_isS hs3).in dX5_day_24 ?_
    refine lv_if_eq (tgt := 134) hx hb dX5_day_25 (by decide) (fun c_25 => ?_) (fun c_25 => ?_)
    · skip
      refine lv_iinc (lv' := [(2, .int _), (3, .int _), (1, .int _), (0, .ref _)]) hx hb dX5_day_134 hl (k := 1) rfl rfl (by decide) rfl (fun ls hl => ?_)
      refine lv_goto (tgt := 9) hx hb dX5_day_137 (by decide) ?_
      exact ih _ (sn + 1, dn + 0, (d, sc, sz, sg, ik, cp, wt, wa, ch, ct, th)) _ _ _ (by omega) ⟨rfl, by omega, ⟨_, dn, 0, hN, Or.inl ⟨by rw [cl_nI (by omega)] at c_25; exact c_25, rfl, rfl⟩, rfl⟩, ⟨hd, hz, hwa, hth, c9, hc9, by omega⟩, hw, by
        have hl := lv_sub hl [0, 2, 3] rfl
        rw [nI_succ]; exact hl⟩
    · skip
      refine lv_aload_n hx hb dX5_day_28 rfl (lv_at hl 3 rfl) ?_
      refine lv_iload_n hx hb dX5_day_29 rfl (lv_at hl 1 rfl) ?_
      refine lv_aload_n hx hb dX5_day_30 rfl (lv_at hl 3 rfl) ?_
      refine m_get6 F hi hl29 hK hw dX5_day_31 ?_
      refine lv_iload_n hx hb dX5_day_34 rfl (lv_at hl 0 rfl) ?_
      refine m_ld6 F hK hw (in120 (by omega)) dX5_day_35 ?_
      rw [cl_nI (show 40 * sn < 2 ^ 31 by omega)]
      refine lv_aload_n hx hb dX5_day_36 rfl (lv_at hl 3 rfl) ?_
      refine m_get6 F hi hl29 hK hw dX5_day_37 ?_
      refine lv_iload_n hx hb dX5_day_40 rfl (lv_at hl 0 rfl) ?_
      refine lv_iconst (v := 1) hx hb dX5_day_41 (by decide) ?_
      refine lv_iadd hx hb dX5_day_42 ?_
      refine m_ld6 F hK hw (by rw [show (1 : Int32) = nI 1 from rfl, nI_add]; exact in120 (by omega)) dX5_day_43 ?_
      rw [show (1 : Int32) = nI 1 from rfl, nI_add, cl_nI (show 40 * sn + 1 < 2 ^ 31 by omega)]
      refine lv_aload_n hx hb dX5_day_44 rfl (lv_at hl 3 rfl) ?_
      refine m_get6 F hi hl29 hK hw dX5_day_45 ?_
      refine lv_iload_n hx hb dX5_day_48 rfl (lv_at hl 0 rfl) ?_
      refine lv_iconst (v := 2) hx hb dX5_day_49 (by decide) ?_
      refine lv_iadd hx hb dX5_day_50 ?_
      refine m_ld6 F hK hw (by rw [show (2 : Int32) = nI 2 from rfl, nI_add]; exact in120 (by omega)) dX5_day_51 ?_
      rw [show (2 : Int32) = nI 2 from rfl, nI_add, cl_nI (show 40 * sn + 2 < 2 ^ 31 by omega)]
      refine lv_aload_n hx hb dX5_day_52 rfl (lv_at hl 3 rfl) ?_
      refine m_get6 F hi hl29 hK hw dX5_day_53 ?_
      refine lv_iload_n hx hb dX5_day_56 rfl (lv_at hl 0 rfl) ?_
      refine lv_iconst (v := 3) hx hb dX5_day_57 (by decide) ?_
      refine lv_iadd hx hb dX5_day_58 ?_
      refine m_ld6 F hK hw (by rw [show (3 : Int32) = nI 3 from rfl, nI_add]; exact in120 (by omega)) dX5_day_59 ?_
      rw [show (3 : Int32) = nI 3 from rfl, nI_add, cl_nI (show 40 * sn + 3 < 2 ^ 31 by omega)]
      refine lv_aload_n hx hb dX5_day_60 rfl (lv_at hl 3 rfl) ?_
      refine m_get6 F hi hl29 hK hw dX5_day_61 ?_
      refine lv_iload_n hx hb dX5_day_64 rfl (lv_at hl 0 rfl) ?_
      refine lv_iconst (v := 4) hx hb dX5_day_65 (by decide) ?_
      refine lv_iadd hx hb dX5_day_66 ?_
      refine m_ld6 F hK hw (by rw [show (4 : Int32) = nI 4 from rfl, nI_add]; exact in120 (by omega)) dX5_day_67 ?_
      rw [show (4 : Int32) = nI 4 from rfl, nI_add, cl_nI (show 40 * sn + 4 < 2 ^ 31 by omega)]
      refine (c_m_copy l G Y x ad _ _ _ _ _ _ _ _ _ _ _ _ _ _ _ _ _ hd hz c9 hc9).callV F (cwV 6 hts gX5_day_X5_copy rfl rfl rfl (by decide +kernel) ⟨Nat.le_of_ble_eq_true rfl, Nat.le_of_ble_eq_true rfl⟩) hK hw hA (m_recv hK hw) rfl rfl hl.1 (Nat.le_of_ble_eq_true rfl) dX5_day_68 ⟨Nat.le_of_ble_eq_true rfl, Nat.le_of_ble_eq_true rfl⟩ (fun r_68 u_68 H locs hp_68 hw => ?_)
      have hcp := hp_68
      obtain ⟨sg', ik', cp', ch', ct', rfl, hct⟩ := mCopy_keep hcp
      refine lv_bipush (v := -50) hx hb dX5_day_71 (by decide) ?_
      refine lv_icmp_ne (tgt := 79) hx hb dX5_day_73 (by decide) (fun c_73 => ?_) (fun c_73 => ?_)
      · skip
        obtain ⟨w9, hw9, ew9⟩ := wOK_pos hwa hs3 (by rw [hcs] at c_25; exact c_25)
        refine lv_aload_n hx hb dX5_day_79 rfl (lv_at hl 3 rfl) ?_
        refine m_get7 F hi hl32 hK hw dX5_day_80 ?_
        refine lv_iload_n hx hb dX5_day_83 rfl (lv_at hl 1 rfl) ?_
        refine lv_dup2_11 hx hb dX5_day_84 rfl rfl ?_
        refine m_ld7 F hK hw (nI_isS hs3).in dX5_day_85 ?_
        refine lv_iconst (v := 1) hx hb dX5_day_86 (by decide) ?_
        refine lv_isub hx hb dX5_day_87 ?_
        rw [hcs, ew9, nI_pred]
        refine m_st7 F hK hw (nI_isS hs3).in dX5_day_88 (fun H locs hw => ?_)
        rw [hcs] at hw
        refine lv_iconst (v := 0) hx hb dX5_day_89 (by decide) ?_
        refine lv_istore (lv' := [(4, .int _), (3, .int _), (2, .int _), (1, .int _), (0, .ref _)]) hx hb dX5_day_90 hl (by decide) rfl (fun ls hl => ?_)
        refine W_loop (σ := Nat) 92 (fun n (t : Nat) H locs ls => n = 5 * w9 - t ∧ t ≤ 5 * w9 ∧ wW G A s.heap (mW Y x ad (d, sc, sz, sg', ik', cp', mShift wt (40 * sn) t, upd wa sn (nI w9), ch', ct', 0)) H locs ∧ lv_has ls 5 [(4, .int (nI t)), (3, .int (nI (40 * sn))), (2, .int (nI sn)), (1, .int (nI dn)), (0, .ref x)]) ?_ (n := 5 * w9) (x := 0) ⟨rfl, by omega, by rw [mShift_0]; exact hw, hl⟩
        intro n2 t H locs ls hI ih2
        obtain ⟨hn2, ht, hw, hl⟩ := hI
        refine lv_iload hx hb dX5_day_92 (lv_at hl 0 rfl) ?_
        refine lv_iconst (v := 5) hx hb dX5_day_94 (by decide) ?_
        refine lv_aload_n hx hb dX5_day_95 rfl (lv_at hl 4 rfl) ?_
        refine m_get7 F hi hl32 hK hw dX5_day_96 ?_
        refine lv_iload_n hx hb dX5_day_99 rfl (lv_at hl 2 rfl) ?_
        refine m_ld7 F hK hw (nI_isS hs3).in dX5_day_100 ?_
        rw [hcs, pk_us]
        refine lv_imul hx hb dX5_day_101 ?_
        rw [mul5]
        refine lv_icmp_ge (tgt := 131) hx hb dX5_day_102 (by decide) (fun c_102 => ?_) (fun c_102 => ?_)
        · skip
          have htn : t = 5 * w9 := by
            have := le_of_c (by omega) (by omega) c_102
            omega
          subst htn
          refine lv_iinc (lv' := [(1, .int _), (4, .int _), (3, .int _), (2, .int _), (0, .ref _)]) hx hb dX5_day_131 hl (k := 3) rfl rfl (by decide) rfl (fun ls hl => ?_)
          refine lv_iinc (lv' := [(2, .int _), (1, .int _), (4, .int _), (3, .int _), (0, .ref _)]) hx hb dX5_day_134 hl (k := 3) rfl rfl (by decide) rfl (fun ls hl => ?_)
          refine lv_goto (tgt := 9) hx hb dX5_day_137 (by decide) ?_
          exact ih _ (sn + 1, dn + 1, (d, sc, sz, sg', ik', cp', mShift wt (40 * sn) (5 * w9), upd wa sn (nI w9), ch', ct', 0)) _ _ _ (by omega) ⟨rfl, by omega, ⟨_, dn, 1, hN, Or.inr ⟨by rw [cl_nI (by omega)] at c_25; exact c_25, _, _, hcp, Or.inr ⟨c_73, rfl, w9, ew9, hw9, rfl⟩⟩, rfl⟩, ⟨hd, hz, wOK_dec hwa hw9, rfl, c0_next (c0 := c00 + sn) hc9 hc9b (by omega) hct⟩, hw, by
            have hl := lv_sub hl [0, 1, 4] rfl
            rw [nI_succ, nI_succ]; exact hl⟩
        · skip
          have htn : t < 5 * w9 := lt_of_c (by omega) (by omega) c_102
          refine lv_aload_n hx hb dX5_day_105 rfl (lv_at hl 4 rfl) ?_
          refine m_get6 F hi hl29 hK hw dX5_day_106 ?_
          refine lv_iload_n hx hb dX5_day_109 rfl (lv_at hl 1 rfl) ?_
          refine lv_iload hx hb dX5_day_110 (lv_at hl 0 rfl) ?_
          refine lv_iadd hx hb dX5_day_112 ?_
          refine lv_aload_n hx hb dX5_day_113 rfl (lv_at hl 4 rfl) ?_
          refine m_get6 F hi hl29 hK hw dX5_day_114 ?_
          refine lv_iload_n hx hb dX5_day_117 rfl (lv_at hl 1 rfl) ?_
          refine lv_iload hx hb dX5_day_118 (lv_at hl 0 rfl) ?_
          refine lv_iadd hx hb dX5_day_120 ?_
          refine lv_iconst (v := 5) hx hb dX5_day_121 (by decide) ?_
          refine lv_iadd hx hb dX5_day_122 ?_
          refine m_ld6 F hK hw (by rw [nI_add, show (5 : Int32) = nI 5 from rfl, nI_add]; exact in120 (by omega)) dX5_day_123 ?_
          rw [nI_add, show (5 : Int32) = nI 5 from rfl, nI_add, cl_nI (show 40 * sn + t + 5 < 2 ^ 31 by omega)]
          refine m_st6 F hK hw (in120 (by omega)) dX5_day_124 (fun H locs hw => ?_)
          rw [cl_nI (show 40 * sn + t < 2 ^ 31 by omega)] at hw
          refine lv_iinc (lv' := [(4, .int _), (3, .int _), (2, .int _), (1, .int _), (0, .ref _)]) hx hb dX5_day_125 hl (k := 0) rfl rfl (by decide) rfl (fun ls hl => ?_)
          refine lv_goto (tgt := 92) hx hb dX5_day_128 (by decide) ?_
          exact ih2 _ (t + 1) _ _ _ (by omega) ⟨rfl, by omega, by rw [← mShift_s, ← mShift_at wt (40 * sn) t]; exact hw, by rw [nI_succ]; exact hl⟩
      · skip
        refine lv_goto (tgt := 134) hx hb dX5_day_76 (by decide) ?_
        refine lv_iinc (lv' := [(2, .int _), (3, .int _), (1, .int _), (0, .ref _)]) hx hb dX5_day_134 hl (k := 1) rfl rfl (by decide) rfl (fun ls hl => ?_)
        refine lv_goto (tgt := 9) hx hb dX5_day_137 (by decide) ?_
        exact ih _ (sn + 1, dn + 0, (d, sc, sz, sg', ik', cp', wt, wa, ch', ct', 0)) _ _ _ (by omega) ⟨rfl, by omega, ⟨_, dn, 0, hN, Or.inr ⟨by rw [cl_nI (by omega)] at c_25; exact c_25, _, _, hcp, Or.inl ⟨c_73, rfl, rfl⟩⟩, rfl⟩, ⟨hd, hz, hwa, rfl, c0_next (c0 := c00 + sn) hc9 hc9b (by omega) hct⟩, hw, by
          have hl := lv_sub hl [0, 2, 3] rfl
          rw [nI_succ]; exact hl⟩
end
section
/-! the class's world: writes give a new heap, the new cell, and what stays -/
def pFr (h h' : PH) (L : List Nat) : Prop := ∀ (a : Nat) (e : va_E), a ∉ L → pAt h a e → pAt h' a e
theorem pFr.rf {h : PH} {L : List Nat} : pFr h h L := fun _ _ _ q => q
theorem pFr.one {h h' : PH} {a b : Nat} {e : va_E} (f : pFr h h' [a]) (q : pAt h b e) (n : b ≠ a) : pAt h' b e := f b e (by simpa using n) q
theorem pFr.none {h h' : PH} {b : Nat} {e : va_E} (f : pFr h h' []) (q : pAt h b e) : pAt h' b e := f b e (by simp) q
theorem pFr.trans {h h1 h2 : PH} {L1 L2 : List Nat} (f : pFr h h1 L1) (g : pFr h1 h2 L2) : pFr h h2 (L1 ++ L2) := fun a e n q => g a e (fun z => n (List.mem_append_right _ z)) (f a e (fun z => n (List.mem_append_left _ z)) q)
theorem pFr.mono {h h' : PH} {L L' : List Nat} (f : pFr h h' L) (s : ∀ a ∈ L, a ∈ L') : pFr h h' L' := fun a e n q => f a e (fun z => n (s a z)) q
theorem pFr_set {h : PH} {a : Nat} {e : va_E} : pFr h (pSet h a e) [a] := fun b _ n q => q.ne (by simpa using n)
theorem pFr_new {h : PH} {a : Nat} {e : va_E} (n : a ∉ h.1) : pFr h (pNew h a e) [] := fun _ _ _ q => q.old n
/-- the addresses of h stay addresses -/
def pGr (h h' : PH) : Prop := ∀ a, a ∈ h.1 → a ∈ h'.1
theorem pAt.kinds {h : PH} {a b : Nat} {e e' : va_E} (H : pAt h a e) (H' : pAt h b e') (n : e ≠ e') : a ≠ b := H.apart H' n
section PHQ
variable {p : Program} {l : Launch} {e : Env} {R : Room} {s : State} {m : MethodId} {args : Array Value} {below : List Frame} {meth : Method} {c : Code} {H : Heap} {locs : List Loc} {cells slots nL : Nat} {Q : State → Prop} {cc : ByteArray} {pc : Nat} {ls : Array Slot} {G : va_G} {Y : Nat → ClassId} {A : Nat → Prop} {Ts : List Cond} {rest : List Value} {h : PH} {a : Nat} {own C : String} {T : u_T} {N ci index n : Nat} {fs fs' : List Value} {v : Value} {i : Int32}
theorem q_put (k : Nat) {ty0 : Nat → FieldType} {ty : FieldType} (F : CallFix p m c cc nL s args Ts own) (hc : vwCl[ci]? = some (C, T, N)) (hi : ∀ w ∈ u_ws C T N, w ∈ Ts) (hty : ∀ k, k < N → parseFieldDescriptor (T k).2.2.1 = some (ty0 k)) (hnm : ∀ a, a < N → ∀ b, b < N → a ≠ b → (T a).2.1 ≠ (T b).2.1) (hl : Cond.fieldLink own index (T k).1 (T k).2.1 (T k).2.2.1 ∈ Ts) (hk : k < N) (hfin : (T k).2.2.2 = false) (hd : parseFieldDescriptor (T k).2.2.1 = some ty) (hn : narrow ty v = v) (hfit : fits ty v = true) (hlen : k < fs.length)
    (hK : kK G Y s) (hw : wW G A s.heap (pw h) H locs) (ha : pAt h a (.inr (ci, fs))) (hfs : fs.set k v = fs') (hdg : decode cc pc = .ok (.putfield index, 3))
    (kk : ∀ (h1 : PH) (H1 : Heap) (locs1 : List Loc), pAt h1 a (.inr (ci, fs')) → pFr h h1 [a] → wW G A s.heap (pw h1) H1 locs1 → W p l e R s m args below meth c H1 locs1 cells slots Q (F0 m (pc + 3) ls rest)) : W p l e R s m args below meth c H locs cells slots Q (F0 m pc ls (v :: .ref a :: rest)) :=
  p_put k F hc hi hty hnm hl hk hfin hd hn hfit hlen hK hw ha hfs hdg (fun H1 locs1 hw1 => kk _ H1 locs1 ha.same pFr_set hw1)
theorem q_putF (k : Nat) {ty0 : Nat → FieldType} {ty : FieldType} (F : CallFix p m c cc nL s args Ts own) (hc : vwCl[ci]? = some (C, T, N)) (hi : ∀ w ∈ u_ws C T N, w ∈ Ts) (hty : ∀ k, k < N → parseFieldDescriptor (T k).2.2.1 = some (ty0 k)) (hnm : ∀ a, a < N → ∀ b, b < N → a ≠ b → (T a).2.1 ≠ (T b).2.1) (hl : Cond.fieldLink own index (T k).1 (T k).2.1 (T k).2.2.1 ∈ Ts) (hk : k < N) (hfin : (T k).2.2.2 = true) (hin2 : meth.name = "<init>") (hdecl : (T k).1 = own) (hd : parseFieldDescriptor (T k).2.2.1 = some ty) (hn : narrow ty v = v) (hfit : fits ty v = true) (hlen : k < fs.length)
    (hK : kK G Y s) (hw : wW G A s.heap (pw h) H locs) (ha : pAt h a (.inr (ci, fs))) (hfs : fs.set k v = fs') (hdg : decode cc pc = .ok (.putfield index, 3))
    (kk : ∀ (h1 : PH) (H1 : Heap) (locs1 : List Loc), pAt h1 a (.inr (ci, fs')) → pFr h h1 [a] → wW G A s.heap (pw h1) H1 locs1 → W p l e R s m args below meth c H1 locs1 cells slots Q (F0 m (pc + 3) ls rest)) : W p l e R s m args below meth c H locs cells slots Q (F0 m pc ls (v :: .ref a :: rest)) :=
  p_putF k F hc hi hty hnm hl hk hfin hin2 hdecl hd hn hfit hlen hK hw ha hfs hdg (fun H1 locs1 hw1 => kk _ H1 locs1 ha.same pFr_set hw1)
theorem q_stI {f : Nat → Int32} {x : Int32} (F : CallFix p m c cc nL s args Ts own) (hK : kK G Y s) (hw : wW G A s.heap (pw h) H locs) (ha : pAt h a (aI Y n f)) (hin : vp_in i n) (hdg : decode cc pc = .ok (.iastore, 1)) (kk : ∀ (h1 : PH) (H1 : Heap) (locs1 : List Loc), pAt h1 a (aI Y n (upd f (cl i) x)) → pFr h h1 [a] → wW G A s.heap (pw h1) H1 locs1 → W p l e R s m args below meth c H1 locs1 cells slots Q (F0 m (pc + 1) ls rest)) : W p l e R s m args below meth c H locs cells slots Q (F0 m pc ls (.int x :: .int i :: .ref a :: rest)) :=
  p_stI F hK hw ha hin hdg (fun H1 locs1 hw1 => kk _ H1 locs1 ha.same pFr_set hw1)
theorem q_stJ {f : Nat → Int64} {x : Int64} (F : CallFix p m c cc nL s args Ts own) (hK : kK G Y s) (hw : wW G A s.heap (pw h) H locs) (ha : pAt h a (aJ Y n f)) (hin : vp_in i n) (hdg : decode cc pc = .ok (.lastore, 1)) (kk : ∀ (h1 : PH) (H1 : Heap) (locs1 : List Loc), pAt h1 a (aJ Y n (vp_updL f (cl i) x)) → pFr h h1 [a] → wW G A s.heap (pw h1) H1 locs1 → W p l e R s m args below meth c H1 locs1 cells slots Q (F0 m (pc + 1) ls rest)) : W p l e R s m args below meth c H locs cells slots Q (F0 m pc ls (.long x :: .int i :: .ref a :: rest)) :=
  p_stJ F hK hw ha hin hdg (fun H1 locs1 hw1 => kk _ H1 locs1 ha.same pFr_set hw1)
theorem q_stB {f : Nat → Option Nat} {b : Nat} (F : CallFix p m c cc nL s args Ts own) (hK : kK G Y s) (hw : wW G A s.heap (pw h) H locs) (ha : pAt h a (aB Y n f)) (hb9 : pAt h b (.inr (0, fs))) (hin : vp_in i n) (hdg : decode cc pc = .ok (.aastore, 1)) (kk : ∀ (h1 : PH) (H1 : Heap) (locs1 : List Loc), pAt h1 a (aB Y n (va_up f (cl i) (some b))) → pFr h h1 [a] → wW G A s.heap (pw h1) H1 locs1 → W p l e R s m args below meth c H1 locs1 cells slots Q (F0 m (pc + 1) ls rest)) : W p l e R s m args below meth c H locs cells slots Q (F0 m pc ls (.ref b :: .int i :: .ref a :: rest)) :=
  p_stB F hK hw ha hb9 hin hdg (fun H1 locs1 hw1 => kk _ H1 locs1 ha.same pFr_set hw1)
theorem q_stP {f : Nat → Option Nat} {b : Nat} (F : CallFix p m c cc nL s args Ts own) (hK : kK G Y s) (hw : wW G A s.heap (pw h) H locs) (ha : pAt h a (aP Y n f)) (hb9 : pAt h b (.inr (2, fs))) (hin : vp_in i n) (hdg : decode cc pc = .ok (.aastore, 1)) (kk : ∀ (h1 : PH) (H1 : Heap) (locs1 : List Loc), pAt h1 a (aP Y n (va_up f (cl i) (some b))) → pFr h h1 [a] → wW G A s.heap (pw h1) H1 locs1 → W p l e R s m args below meth c H1 locs1 cells slots Q (F0 m (pc + 1) ls rest)) : W p l e R s m args below meth c H locs cells slots Q (F0 m pc ls (.ref b :: .int i :: .ref a :: rest)) :=
  p_stP F hK hw ha hb9 hin hdg (fun H1 locs1 hw1 => kk _ H1 locs1 ha.same pFr_set hw1)
theorem q_stPN {f : Nat → Option Nat} (F : CallFix p m c cc nL s args Ts own) (hK : kK G Y s) (hw : wW G A s.heap (pw h) H locs) (ha : pAt h a (aP Y n f)) (hin : vp_in i n) (hdg : decode cc pc = .ok (.aastore, 1)) (kk : ∀ (h1 : PH) (H1 : Heap) (locs1 : List Loc), pAt h1 a (aP Y n (va_up f (cl i) none)) → pFr h h1 [a] → wW G A s.heap (pw h1) H1 locs1 → W p l e R s m args below meth c H1 locs1 cells slots Q (F0 m (pc + 1) ls rest)) : W p l e R s m args below meth c H locs cells slots Q (F0 m pc ls (.null :: .int i :: .ref a :: rest)) :=
  p_stPN F hK hw ha hin hdg (fun H1 locs1 hw1 => kk _ H1 locs1 ha.same pFr_set hw1)
theorem q_stS {f : Nat → Option Nat} {b : Nat} (F : CallFix p m c cc nL s args Ts own) (hK : kK G Y s) (hw : wW G A s.heap (pw h) H locs) (ha : pAt h a (aS Y n f)) (hb9 : pAt h b (.inr (3, fs))) (hin : vp_in i n) (hdg : decode cc pc = .ok (.aastore, 1)) (kk : ∀ (h1 : PH) (H1 : Heap) (locs1 : List Loc), pAt h1 a (aS Y n (va_up f (cl i) (some b))) → pFr h h1 [a] → wW G A s.heap (pw h1) H1 locs1 → W p l e R s m args below meth c H1 locs1 cells slots Q (F0 m (pc + 1) ls rest)) : W p l e R s m args below meth c H locs cells slots Q (F0 m pc ls (.ref b :: .int i :: .ref a :: rest)) :=
  p_stS F hK hw ha hb9 hin hdg (fun H1 locs1 hw1 => kk _ H1 locs1 ha.same pFr_set hw1)
theorem q_new {ty0 : Nat → FieldType} (F : CallFix p m c cc nL s args Ts own) (hc : vwCl[ci]? = some (C, T, N)) (hi : ∀ w ∈ u_ws C T N, w ∈ Ts) (hty : ∀ k, k < N → parseFieldDescriptor (T k).2.2.1 = some (ty0 k)) (hcl : Cond.classLink own index C ∈ Ts) (hinst : Cond.instantiable C N ∈ Ts) (hini : Cond.initialized C ∈ Ts) (hK : kK G Y s) (hw : wW G A s.heap (pw h) H locs) (hA : ∀ q, s.heap.size ≤ q → A q) (hfs : ∀ j, j < N → defaultValue (ty0 j) = vp_V fs j) (hcells : cells + 1 ≤ R.cells) (hslots : slots + N ≤ R.slots) (hdg : decode cc pc = .ok (.new index, 3))
    (kk : ∀ (q : Nat) (h1 : PH) (H1 : Heap), pAt h1 q (.inr (ci, fs)) → pFr h h1 [] → (∀ b e9, pAt h b e9 → b ≠ q) → wW G A s.heap (pw h1) H1 locs → W p l e R s m args below meth c H1 locs (cells + 1) (slots + N) Q (F0 m (pc + 3) ls (.ref q :: rest))) : W p l e R s m args below meth c H locs cells slots Q (F0 m pc ls rest) :=
  p_new F hc hi hty hcl hinst hini hK hw hA hfs hcells hslots hdg (fun q H1 hq hw1 => kk q _ H1 pAt.new (pFr_new hq) (fun b e9 hb9 he => hq (he ▸ hb9.1)) hw1)
theorem q_newI {N' : Nat} (F : CallFix p m c cc nL s args Ts own) (harr : Cond.arrayClass .int ∈ Ts) (hK : kK G Y s) (hw : wW G A s.heap (pw h) H locs) (hA : ∀ q, s.heap.size ≤ q → A q) (hn : ¬ i < 0) (hN : i.toNatClampNeg = N') (hb9 : N' ≤ 100000) (hcells : cells + 1 ≤ R.cells) (hslots : slots + N' ≤ R.slots) (hdg : decode cc pc = .ok (.newarray .int, 2))
    (kk : ∀ (q : Nat) (h1 : PH) (H1 : Heap), pAt h1 q (aI Y N' (fun _ => 0)) → pFr h h1 [] → (∀ b e9, pAt h b e9 → b ≠ q) → wW G A s.heap (pw h1) H1 locs → W p l e R s m args below meth c H1 locs (cells + 1) (slots + N') Q (F0 m (pc + 2) ls (.ref q :: rest))) : W p l e R s m args below meth c H locs cells slots Q (F0 m pc ls (.int i :: rest)) :=
  p_newI F harr hK hw hA hn hN hb9 hcells hslots hdg (fun q H1 hq hw1 => kk q _ H1 pAt.new (pFr_new hq) (fun b e9 hb9 he => hq (he ▸ hb9.1)) hw1)
theorem q_newJ {N' : Nat} (F : CallFix p m c cc nL s args Ts own) (harr : Cond.arrayClass .long ∈ Ts) (hK : kK G Y s) (hw : wW G A s.heap (pw h) H locs) (hA : ∀ q, s.heap.size ≤ q → A q) (hn : ¬ i < 0) (hN : i.toNatClampNeg = N') (hb9 : N' ≤ 100000) (hcells : cells + 1 ≤ R.cells) (hslots : slots + N' ≤ R.slots) (hdg : decode cc pc = .ok (.newarray .long, 2))
    (kk : ∀ (q : Nat) (h1 : PH) (H1 : Heap), pAt h1 q (aJ Y N' (fun _ => 0)) → pFr h h1 [] → (∀ b e9, pAt h b e9 → b ≠ q) → wW G A s.heap (pw h1) H1 locs → W p l e R s m args below meth c H1 locs (cells + 1) (slots + N') Q (F0 m (pc + 2) ls (.ref q :: rest))) : W p l e R s m args below meth c H locs cells slots Q (F0 m pc ls (.int i :: rest)) :=
  p_newJ F harr hK hw hA hn hN hb9 hcells hslots hdg (fun q H1 hq hw1 => kk q _ H1 pAt.new (pFr_new hq) (fun b e9 hb9 he => hq (he ▸ hb9.1)) hw1)
theorem q_newA {C : String} {N' : Nat} {cB : ClassId} (k : Nat) (F : CallFix p m c cc nL s args Ts own) (hk : (kT Y)[k]? = some (cB, .object C)) (hcl : Cond.classLink own index C ∈ Ts) (hao : va_AO C s) (hK : kK G Y s) (hw : wW G A s.heap (pw h) H locs) (hA : ∀ q, s.heap.size ≤ q → A q) (hn : ¬ i < 0) (hN : i.toNatClampNeg = N') (hb9 : N' ≤ 100000) (hcells : cells + 1 ≤ R.cells) (hslots : slots + N' ≤ R.slots) (hdg : decode cc pc = .ok (.anewarray index, 3))
    (kk : ∀ (q : Nat) (h1 : PH) (H1 : Heap), pAt h1 q (.inl (cB, N', .inr (.inr (.inr (.inr (fun _ => none)))))) → pFr h h1 [] → (∀ b e9, pAt h b e9 → b ≠ q) → wW G A s.heap (pw h1) H1 locs → W p l e R s m args below meth c H1 locs (cells + 1) (slots + N') Q (F0 m (pc + 3) ls (.ref q :: rest))) : W p l e R s m args below meth c H locs cells slots Q (F0 m pc ls (.int i :: rest)) :=
  p_newA k F hk hcl hao hK hw hA hn hN hb9 hcells hslots hdg (fun q H1 hq hw1 => kk q _ H1 pAt.new (pFr_new hq) (fun b e9 hb9 he => hq (he ▸ hb9.1)) hw1)
theorem q_cpI {n0 n1 a0 : Nat} {f g : Nat → Int32} {sp dp k : Int32} (F : CallFix p m c cc nL s args Ts own) (hsz : ls.size = nL) (hlink : Cond.methodLink own index arraycopyName ∈ Ts) (hnat : Cond.native arraycopyName ∈ Ts) (hstat : Cond.static arraycopyName ∈ Ts) (hini : Cond.initialized "java/lang/System" ∈ Ts) (hK : kK G Y s) (hw : wW G A s.heap (pw h) H locs) (ha0 : pAt h a0 (aI Y n0 f)) (ha : pAt h a (aI Y n1 g)) (h1 : ¬ sp < 0) (h2 : ¬ dp < 0) (h3 : ¬ k < 0) (h4 : cl sp + cl k ≤ n0) (h5 : cl dp + cl k ≤ n1)
    (hfr : 1 ≤ R.frames) (hlo : (rest.map fun v => v.category).sum + (nativeFrameWords "java/lang/System" "arraycopy" 5 + 11) ≤ R.locals) (hdg : decode cc pc = .ok (.invokestatic index, 3))
    (kk : ∀ (h1 : PH) (H1 : Heap) (locs1 : List Loc), pAt h1 a (aI Y n1 (va_cpy f g (cl sp) (cl dp) (cl k))) → pFr h h1 [a] → wW G A s.heap (pw h1) H1 locs1 → W p l e R s m args below meth c H1 locs1 cells slots Q (F0 m (pc + 3) ls rest)) : W p l e R s m args below meth c H locs cells slots Q (F0 m pc ls (.int k :: .int dp :: .ref a :: .int sp :: .ref a0 :: rest)) := by
  obtain ⟨q0, hq0⟩ := ha0.get
  obtain ⟨q1, hq1⟩ := ha.get
  refine va_copyi (ty := .int) F.1 F.2.1 (F.2.2.1.trans hsz.symm) F.2.2.2.1 (F.2.2.2.2 _ hlink) (F.2.2.2.2 _ hnat) (F.2.2.2.2 _ hstat) (F.2.2.2.2 _ hini) hK.1 hw.1 hw.2.1 hw.2.2 q0 q1 0 0 hq0 hq1 rfl rfl rfl h1 h2 h3 h4 h5 (fun _ _ => rfl) hfr hlo hdg (fun H1 locs1 hP hD hS => ?_)
  rw [pw_set hw.2.1 ha hq1] at hP hD
  exact kk _ H1 locs1 ha.same pFr_set ⟨hP, hD, hS⟩
theorem q_cpJ {n0 n1 a0 : Nat} {f g : Nat → Int64} {sp dp k : Int32} (F : CallFix p m c cc nL s args Ts own) (hsz : ls.size = nL) (hlink : Cond.methodLink own index arraycopyName ∈ Ts) (hnat : Cond.native arraycopyName ∈ Ts) (hstat : Cond.static arraycopyName ∈ Ts) (hini : Cond.initialized "java/lang/System" ∈ Ts) (hK : kK G Y s) (hw : wW G A s.heap (pw h) H locs) (ha0 : pAt h a0 (aJ Y n0 f)) (ha : pAt h a (aJ Y n1 g)) (h1 : ¬ sp < 0) (h2 : ¬ dp < 0) (h3 : ¬ k < 0) (h4 : cl sp + cl k ≤ n0) (h5 : cl dp + cl k ≤ n1)
    (hfr : 1 ≤ R.frames) (hlo : (rest.map fun v => v.category).sum + (nativeFrameWords "java/lang/System" "arraycopy" 5 + 11) ≤ R.locals) (hdg : decode cc pc = .ok (.invokestatic index, 3))
    (kk : ∀ (h1 : PH) (H1 : Heap) (locs1 : List Loc), pAt h1 a (aJ Y n1 (va_cpy f g (cl sp) (cl dp) (cl k))) → pFr h h1 [a] → wW G A s.heap (pw h1) H1 locs1 → W p l e R s m args below meth c H1 locs1 cells slots Q (F0 m (pc + 3) ls rest)) : W p l e R s m args below meth c H locs cells slots Q (F0 m pc ls (.int k :: .int dp :: .ref a :: .int sp :: .ref a0 :: rest)) := by
  obtain ⟨q0, hq0⟩ := ha0.get
  obtain ⟨q1, hq1⟩ := ha.get
  refine va_copyl (ty := .long) F.1 F.2.1 (F.2.2.1.trans hsz.symm) F.2.2.2.1 (F.2.2.2.2 _ hlink) (F.2.2.2.2 _ hnat) (F.2.2.2.2 _ hstat) (F.2.2.2.2 _ hini) hK.1 hw.1 hw.2.1 hw.2.2 q0 q1 1 1 hq0 hq1 rfl rfl rfl h1 h2 h3 h4 h5 (fun _ _ => rfl) hfr hlo hdg (fun H1 locs1 hP hD hS => ?_)
  rw [pw_set hw.2.1 ha hq1] at hP hD
  exact kk _ H1 locs1 ha.same pFr_set ⟨hP, hD, hS⟩
end PHQ
end
section
/-! the class: what its small methods answer -/
abbrev cAlike (s t : Int32) : Prop := ¬ s < 0 ∧ (s = t ∨ (6 ≤ s ∧ 6 ≤ t))
abbrev cAdm (s k : Int32) : Prop := (s = 7 → ¬ k = 2) ∧ (s = 8 → ¬ k = 1)
def cCut (s : Int32) (v : Int64) : Int64 := if s = 0 then v.toInt32.toInt8.toInt32.toInt64 else if s = 1 then ((v.toInt32.toUInt32 % 65536).toInt32).toInt64 else if s = 2 then v.toInt32.toInt16.toInt32.toInt64 else if s = 3 then v.toInt32.toInt64 else if s = 4 then v else v &&& 1
abbrev cRun (n : Nat) (p k : Int32) : Prop := ¬ p < 0 ∧ ¬ k < 0 ∧ ¬ nI n - k < p
def cSgn (s : Int32) (v : Int64) (t : Int32) : Int64 := if 6 ≤ s then 4 * v + t.toInt64 else v
def cStop (s : Int32) (g : Nat → Int32) (ii nn st : Nat) : Prop := st ≤ nn ∧ (∀ k, k < st → cAdm s (g (ii + k))) ∧ (st < nn → ¬ cAdm s (g (ii + st)))
def jFM (x y : Int32) : Int32 := if 0 ≤ x ^^^ y then x - x / y * y else if x - x / y * y = 0 then x - x / y * y else x - x / y * y + y
theorem jFM_16 : ∀ a b : Fin 16, jFM (nI a.val - 1 - nI b.val) 16 = nI ((a.val + 31 - b.val) % 16) := by decide +kernel
theorem next16 {x : Nat} (h : x < 16) : (nI x + 1) - (nI x + 1) / 16 * 16 = nI ((x + 1) % 16) := by
  rw [nI_1, show (16 : Int32) = nI 16 from rfl]; exact pk_rem (by omega) (by decide) (by decide)
theorem held16 {x : Nat} (h : x ≤ 16) : (if nI x + 1 < 16 then nI x + 1 else 16) = nI (if x + 1 < 16 then x + 1 else 16) := by
  rw [nI_1, show (16 : Int32) = nI 16 from rfl]
  by_cases q : x + 1 < 16
  · rw [if_pos q, if_pos ((nI_ltI (by omega) (by omega)).mpr q)]
  · rw [if_neg q, if_neg (fun z => q ((nI_ltI (by omega) (by omega)).mp z))]
theorem isNot {a b : Int32} (h : a ≤ b) : ¬ b < a := Int32.not_lt.mpr h
/-- a member of a JDK class that the machine has no entry for -/
theorem ctI.ofF {S : Type} {l : Launch} {G : va_G} {Y : Nat → ClassId} {wf : S → va_W} {y : MethodName} {wd wd' : List Cond} {rm : Room} {av : List Value} {u : S} {cc : ByteArray} {maxL : Nat} {ret : Option FieldType} {post : Int32 → S → Prop} (hy : plainFor y = true) (hw : wd = Cond.code y cc maxL ret :: wd') (hlen : (lg_sl av).length ≤ maxL)
    (body : ∀ (A : Nat → Prop) p e s m below meth c ls, bSt G Y A (wf u) p y wd cc maxL ret av s m meth c ls → W p l e rm s m av.toArray below meth c s.heap [] 0 0 (MQ below (va_Qi post (fun u' t => wC G Y A (wf u') t) A) av.toArray s rm.cells rm.slots A) (F0 m 0 ls [])) : ctI l G Y wf y wd rm av u post := by
  intro sz
  refine va_MetF (cc := cc) (maxL := maxL) (ret := ret) hy hw ?_
  intro p e s m args below meth c s₁ B hml hv
  obtain ⟨rfl, hsz, hP, hK, hD0⟩ := hv
  have hts := atoms_spec (ws := wd) B.pre
  have hown : s.vm.findClass y.cls = some m.cls := findClass_of_methodNamed B.named
  subst hsz
  have hD := hD0.self (sz := s.heap.size)
  have hl := lv_entry av (n := maxL) hlen
  rw [lg_entry_eq]
  exact body _ p e s m below meth c _ ⟨⟨B.exec, B.bytes, hml, hown, hts⟩, B.returns, B.notSynchronized, (name_of_methodNamed B.named B.method).1, hK, fun q h => Or.inr h, ⟨hP, hD, va_S.rf⟩, hl⟩
end
section
set_option maxHeartbeats 4000000 in
set_option maxRecDepth 100000 in
theorem c_X0_length (l : Launch) (G : va_G) (Y : Nat → ClassId) (h : PH) (b v so : Nat) (sc : Int32) (nv : Nat) (fv : Nat → Int64) (fs : Nat → Int32) (f_b : pAt h b (oBook sc v so))(f_v : pAt h v (aJ Y nv fv)) : ctI l G Y pw yX0_length wsX0_length ({ frames := 0, cells := 0, slots := 0, locals := 0 }) [.ref b] h (fun r h' => h' = h ∧ r = nI nv) := by
  refine ctI.of (cc := cX0_length) (maxL := 1) (ret := (some .int)) (by decide +kernel) rfl (Nat.le_of_ble_eq_true rfl) ?_
  intro A p e s m below meth c ls hB
  obtain ⟨F, hr, hlocks, hnm, hK, hA, hw, hl⟩ := hB
  obtain ⟨hx, hb, hml, hown, hts⟩ := id F
  have hl : lv_has ls 1 [(0, .ref b)] := hl
  have hi0 : ∀ w ∈ wsX00, w ∈ wsX0_length := by decide +kernel
  have hl15 : Cond.fieldLink RX0 15 "Scriptorium$Book" "values" "[J" ∈ wsX0_length := by decide +kernel
  refine lv_aload_n hx hb dX0_length_0 rfl (lv_at hl 0 rfl) ?_
  refine p_get (ci := 0) (C := RX0) (T := TX0) (N := 3) 1 F rfl hi0 hl15 (by decide) hK hw f_b rfl dX0_length_1 ?_
  refine p_alen 1 F hK hw f_v rfl rfl dX0_length_4 ?_
  exact ct_iret hx hb hr (vp_nar_int _) hlocks hK hw dX0_length_5 (Nat.le_of_ble_eq_true rfl) (Nat.le_of_ble_eq_true rfl) ⟨rfl, rfl⟩

set_option maxHeartbeats 4000000 in
set_option maxRecDepth 100000 in
theorem c_X0_isNoBook (l : Launch) (G : va_G) (Y : Nat → ClassId) (h : PH) (b v so : Nat) (sc : Int32) (f_b : pAt h b (oBook sc v so)) : ctI l G Y pw yX0_isNoBook wsX0_isNoBook ({ frames := 0, cells := 0, slots := 0, locals := 0 }) [.ref b] h (fun r h' => h' = h ∧ ((sc < 0 ∧ r = 1) ∨ (¬ sc < 0 ∧ r = 0))) := by
  refine ctI.of (cc := cX0_isNoBook) (maxL := 1) (ret := (some .boolean)) (by decide +kernel) rfl (Nat.le_of_ble_eq_true rfl) ?_
  intro A p e s m below meth c ls hB
  obtain ⟨F, hr, hlocks, hnm, hK, hA, hw, hl⟩ := hB
  obtain ⟨hx, hb, hml, hown, hts⟩ := id F
  have hl : lv_has ls 1 [(0, .ref b)] := hl
  have hi0 : ∀ w ∈ wsX00, w ∈ wsX0_isNoBook := by decide +kernel
  have hl9 : Cond.fieldLink RX0 9 "Scriptorium$Book" "script" "I" ∈ wsX0_isNoBook := by decide +kernel
  refine lv_aload_n hx hb dX0_isNoBook_0 rfl (lv_at hl 0 rfl) ?_
  refine p_get (ci := 0) (C := RX0) (T := TX0) (N := 3) 0 F rfl hi0 hl9 (by decide) hK hw f_b rfl dX0_isNoBook_1 ?_
  refine lv_if_ge (tgt := 11) hx hb dX0_isNoBook_4 (by decide) (fun c_4 => ?_) (fun c_4 => ?_)
  · skip
    refine lv_iconst (v := 0) hx hb dX0_isNoBook_11 (by decide) ?_
    exact ct_iret hx hb hr rfl hlocks hK hw dX0_isNoBook_12 (Nat.le_of_ble_eq_true rfl) (Nat.le_of_ble_eq_true rfl) ⟨rfl, Or.inr ⟨isNot c_4, rfl⟩⟩
  · skip
    refine lv_iconst (v := 1) hx hb dX0_isNoBook_7 (by decide) ?_
    refine lv_goto (tgt := 12) hx hb dX0_isNoBook_8 (by decide) ?_
    exact ct_iret hx hb hr rfl hlocks hK hw dX0_isNoBook_12 (Nat.le_of_ble_eq_true rfl) (Nat.le_of_ble_eq_true rfl) ⟨rfl, Or.inl ⟨Int32.not_le.mp c_4, rfl⟩⟩

set_option maxHeartbeats 4000000 in
set_option maxRecDepth 100000 in
theorem c_X0_hasPictures (l : Launch) (G : va_G) (Y : Nat → ClassId) (h : PH) (b v so : Nat) (sc : Int32) (f_b : pAt h b (oBook sc v so)) : ctI l G Y pw yX0_hasPictures wsX0_hasPictures ({ frames := 0, cells := 0, slots := 0, locals := 0 }) [.ref b] h (fun r h' => h' = h ∧ ((6 ≤ sc ∧ r = 1) ∨ (¬ 6 ≤ sc ∧ r = 0))) := by
  refine ctI.of (cc := cX0_hasPictures) (maxL := 1) (ret := (some .boolean)) (by decide +kernel) rfl (Nat.le_of_ble_eq_true rfl) ?_
  intro A p e s m below meth c ls hB
  obtain ⟨F, hr, hlocks, hnm, hK, hA, hw, hl⟩ := hB
  obtain ⟨hx, hb, hml, hown, hts⟩ := id F
  have hl : lv_has ls 1 [(0, .ref b)] := hl
  have hi0 : ∀ w ∈ wsX00, w ∈ wsX0_hasPictures := by decide +kernel
  have hl9 : Cond.fieldLink RX0 9 "Scriptorium$Book" "script" "I" ∈ wsX0_hasPictures := by decide +kernel
  refine lv_aload_n hx hb dX0_hasPictures_0 rfl (lv_at hl 0 rfl) ?_
  refine p_get (ci := 0) (C := RX0) (T := TX0) (N := 3) 0 F rfl hi0 hl9 (by decide) hK hw f_b rfl dX0_hasPictures_1 ?_
  refine lv_bipush (v := 6) hx hb dX0_hasPictures_4 (by decide) ?_
  refine lv_icmp_lt (tgt := 13) hx hb dX0_hasPictures_6 (by decide) (fun c_6 => ?_) (fun c_6 => ?_)
  · skip
    refine lv_iconst (v := 0) hx hb dX0_hasPictures_13 (by decide) ?_
    exact ct_iret hx hb hr rfl hlocks hK hw dX0_hasPictures_14 (Nat.le_of_ble_eq_true rfl) (Nat.le_of_ble_eq_true rfl) ⟨rfl, Or.inr ⟨Int32.not_le.mpr c_6, rfl⟩⟩
  · skip
    refine lv_iconst (v := 1) hx hb dX0_hasPictures_9 (by decide) ?_
    refine lv_goto (tgt := 14) hx hb dX0_hasPictures_10 (by decide) ?_
    exact ct_iret hx hb hr rfl hlocks hK hw dX0_hasPictures_14 (Nat.le_of_ble_eq_true rfl) (Nat.le_of_ble_eq_true rfl) ⟨rfl, Or.inl ⟨Int32.not_lt.mp c_6, rfl⟩⟩

set_option maxHeartbeats 4000000 in
set_option maxRecDepth 100000 in
theorem c_X0_isAlike (l : Launch) (G : va_G) (Y : Nat → ClassId) (h : PH) (b v so : Nat) (sc : Int32) (o v2 so2 : Nat) (sc2 : Int32) (f_b : pAt h b (oBook sc v so))(f_o : pAt h o (oBook sc2 v2 so2)) : ctI l G Y pw yX0_isAlike wsX0_isAlike ({ frames := 1, cells := 0, slots := 0, locals := 20 }) [.ref b, .ref o] h (fun r h' => h' = h ∧ ((cAlike sc sc2 ∧ r = 1) ∨ (¬ cAlike sc sc2 ∧ r = 0))) := by
  refine ctI.of (cc := cX0_isAlike) (maxL := 2) (ret := (some .boolean)) (by decide +kernel) rfl (Nat.le_of_ble_eq_true rfl) ?_
  intro A p e s m below meth c ls hB
  obtain ⟨F, hr, hlocks, hnm, hK, hA, hw, hl⟩ := hB
  obtain ⟨hx, hb, hml, hown, hts⟩ := id F
  have hl : lv_has ls 2 [(0, .ref b), (1, .ref o)] := hl
  have hi0 : ∀ w ∈ wsX00, w ∈ wsX0_isAlike := by decide +kernel
  have hl9 : Cond.fieldLink RX0 9 "Scriptorium$Book" "script" "I" ∈ wsX0_isAlike := by decide +kernel
  refine lv_aload_n hx hb dX0_isAlike_0 rfl (lv_at hl 0 rfl) ?_
  refine (c_X0_isNoBook l G Y _ _ _ _ _ f_b).callV F (cwV 0 hts gX0_isAlike_X0_isNoBook rfl rfl rfl (by decide +kernel) ⟨Nat.le_of_ble_eq_true rfl, Nat.le_of_ble_eq_true rfl⟩) hK hw hA (p_recv hK hw f_b rfl) rfl rfl hl.1 (Nat.le_of_ble_eq_true rfl) dX0_isAlike_1 ⟨Nat.le_of_ble_eq_true rfl, Nat.le_of_ble_eq_true rfl⟩ (fun r_1 h_1 H locs hp_1 hw => ?_)
  obtain ⟨eh_1, hp_1⟩ := hp_1
  rw [eh_1] at hw
  rcases hp_1 with ⟨hq_1, rfl⟩ | ⟨hq_1, rfl⟩
  · skip
    refine lv_if_ne (tgt := 36) hx hb dX0_isAlike_4 (by decide) (fun c_4 => ?_) (fun c_4 => ?_)
    · skip
      refine lv_iconst (v := 0) hx hb dX0_isAlike_36 (by decide) ?_
      exact ct_iret hx hb hr rfl hlocks hK hw dX0_isAlike_37 (Nat.le_of_ble_eq_true rfl) (Nat.le_of_ble_eq_true rfl) ⟨rfl, Or.inr ⟨fun h => h.1 hq_1, rfl⟩⟩
    · exact absurd c_4 (by decide)
  · skip
    refine lv_if_ne (tgt := 36) hx hb dX0_isAlike_4 (by decide) (fun c_4 => ?_) (fun c_4 => ?_)
    · exact absurd rfl c_4
    · skip
      refine lv_aload_n hx hb dX0_isAlike_7 rfl (lv_at hl 0 rfl) ?_
      refine p_get (ci := 0) (C := RX0) (T := TX0) (N := 3) 0 F rfl hi0 hl9 (by decide) hK hw f_b rfl dX0_isAlike_8 ?_
      refine lv_aload_n hx hb dX0_isAlike_11 rfl (lv_at hl 1 rfl) ?_
      refine p_get (ci := 0) (C := RX0) (T := TX0) (N := 3) 0 F rfl hi0 hl9 (by decide) hK hw f_o rfl dX0_isAlike_12 ?_
      refine lv_icmp_eq (tgt := 32) hx hb dX0_isAlike_15 (by decide) (fun c_15 => ?_) (fun c_15 => ?_)
      · skip
        refine lv_iconst (v := 1) hx hb dX0_isAlike_32 (by decide) ?_
        refine lv_goto (tgt := 37) hx hb dX0_isAlike_33 (by decide) ?_
        exact ct_iret hx hb hr rfl hlocks hK hw dX0_isAlike_37 (Nat.le_of_ble_eq_true rfl) (Nat.le_of_ble_eq_true rfl) ⟨rfl, Or.inl ⟨⟨hq_1, Or.inl c_15⟩, rfl⟩⟩
      · skip
        refine lv_aload_n hx hb dX0_isAlike_18 rfl (lv_at hl 0 rfl) ?_
        refine (c_X0_hasPictures l G Y _ _ _ _ _ f_b).callV F (cwV 0 hts gX0_isAlike_X0_hasPictures rfl rfl rfl (by decide +kernel) ⟨Nat.le_of_ble_eq_true rfl, Nat.le_of_ble_eq_true rfl⟩) hK hw hA (p_recv hK hw f_b rfl) rfl rfl hl.1 (Nat.le_of_ble_eq_true rfl) dX0_isAlike_19 ⟨Nat.le_of_ble_eq_true rfl, Nat.le_of_ble_eq_true rfl⟩ (fun r_19 h_19 H locs hp_19 hw => ?_)
        obtain ⟨eh_19, hp_19⟩ := hp_19
        rw [eh_19] at hw
        rcases hp_19 with ⟨hq_19, rfl⟩ | ⟨hq_19, rfl⟩
        · skip
          refine lv_if_eq (tgt := 36) hx hb dX0_isAlike_22 (by decide) (fun c_22 => ?_) (fun c_22 => ?_)
          · exact absurd c_22 (by decide)
          · skip
            refine lv_aload_n hx hb dX0_isAlike_25 rfl (lv_at hl 1 rfl) ?_
            refine (c_X0_hasPictures l G Y _ _ _ _ _ f_o).callV F (cwV 0 hts gX0_isAlike_X0_hasPictures rfl rfl rfl (by decide +kernel) ⟨Nat.le_of_ble_eq_true rfl, Nat.le_of_ble_eq_true rfl⟩) hK hw hA (p_recv hK hw f_o rfl) rfl rfl hl.1 (Nat.le_of_ble_eq_true rfl) dX0_isAlike_26 ⟨Nat.le_of_ble_eq_true rfl, Nat.le_of_ble_eq_true rfl⟩ (fun r_26 h_26 H locs hp_26 hw => ?_)
            obtain ⟨eh_26, hp_26⟩ := hp_26
            rw [eh_26] at hw
            rcases hp_26 with ⟨hq_26, rfl⟩ | ⟨hq_26, rfl⟩
            · skip
              refine lv_if_eq (tgt := 36) hx hb dX0_isAlike_29 (by decide) (fun c_29 => ?_) (fun c_29 => ?_)
              · exact absurd c_29 (by decide)
              · skip
                refine lv_iconst (v := 1) hx hb dX0_isAlike_32 (by decide) ?_
                refine lv_goto (tgt := 37) hx hb dX0_isAlike_33 (by decide) ?_
                exact ct_iret hx hb hr rfl hlocks hK hw dX0_isAlike_37 (Nat.le_of_ble_eq_true rfl) (Nat.le_of_ble_eq_true rfl) ⟨rfl, Or.inl ⟨⟨hq_1, Or.inr ⟨hq_19, hq_26⟩⟩, rfl⟩⟩
            · skip
              refine lv_if_eq (tgt := 36) hx hb dX0_isAlike_29 (by decide) (fun c_29 => ?_) (fun c_29 => ?_)
              · skip
                refine lv_iconst (v := 0) hx hb dX0_isAlike_36 (by decide) ?_
                exact ct_iret hx hb hr rfl hlocks hK hw dX0_isAlike_37 (Nat.le_of_ble_eq_true rfl) (Nat.le_of_ble_eq_true rfl) ⟨rfl, Or.inr ⟨fun h => h.2.elim c_15 (fun q => hq_26 q.2), rfl⟩⟩
              · exact absurd rfl c_29
        · skip
          refine lv_if_eq (tgt := 36) hx hb dX0_isAlike_22 (by decide) (fun c_22 => ?_) (fun c_22 => ?_)
          · skip
            refine lv_iconst (v := 0) hx hb dX0_isAlike_36 (by decide) ?_
            exact ct_iret hx hb hr rfl hlocks hK hw dX0_isAlike_37 (Nat.le_of_ble_eq_true rfl) (Nat.le_of_ble_eq_true rfl) ⟨rfl, Or.inr ⟨fun h => h.2.elim c_15 (fun q => hq_19 q.1), rfl⟩⟩
          · exact absurd rfl c_22

set_option maxHeartbeats 4000000 in
set_option maxRecDepth 100000 in
theorem c_X0_hasPlace (l : Launch) (G : va_G) (Y : Nat → ClassId) (h : PH) (b v so : Nat) (sc : Int32) (nv : Nat) (fv : Nat → Int64) (fs : Nat → Int32) (p0 : Int32) (f_b : pAt h b (oBook sc v so))(f_v : pAt h v (aJ Y nv fv)) : ctI l G Y pw yX0_hasPlace wsX0_hasPlace ({ frames := 0, cells := 0, slots := 0, locals := 0 }) [.ref b, .int p0] h (fun r h' => h' = h ∧ (((¬ p0 < 0 ∧ ¬ nI nv ≤ p0) ∧ r = 1) ∨ (¬ (¬ p0 < 0 ∧ ¬ nI nv ≤ p0) ∧ r = 0))) := by
  refine ctI.of (cc := cX0_hasPlace) (maxL := 2) (ret := (some .boolean)) (by decide +kernel) rfl (Nat.le_of_ble_eq_true rfl) ?_
  intro A p e s m below meth c ls hB
  obtain ⟨F, hr, hlocks, hnm, hK, hA, hw, hl⟩ := hB
  obtain ⟨hx, hb, hml, hown, hts⟩ := id F
  have hl : lv_has ls 2 [(0, .ref b), (1, .int p0)] := hl
  have hi0 : ∀ w ∈ wsX00, w ∈ wsX0_hasPlace := by decide +kernel
  have hl15 : Cond.fieldLink RX0 15 "Scriptorium$Book" "values" "[J" ∈ wsX0_hasPlace := by decide +kernel
  refine lv_iload_n hx hb dX0_hasPlace_0 rfl (lv_at hl 1 rfl) ?_
  refine lv_if_lt (tgt := 17) hx hb dX0_hasPlace_1 (by decide) (fun c_1 => ?_) (fun c_1 => ?_)
  · skip
    refine lv_iconst (v := 0) hx hb dX0_hasPlace_17 (by decide) ?_
    exact ct_iret hx hb hr rfl hlocks hK hw dX0_hasPlace_18 (Nat.le_of_ble_eq_true rfl) (Nat.le_of_ble_eq_true rfl) ⟨rfl, Or.inr ⟨fun h => h.1 c_1, rfl⟩⟩
  · skip
    refine lv_iload_n hx hb dX0_hasPlace_4 rfl (lv_at hl 1 rfl) ?_
    refine lv_aload_n hx hb dX0_hasPlace_5 rfl (lv_at hl 0 rfl) ?_
    refine p_get (ci := 0) (C := RX0) (T := TX0) (N := 3) 1 F rfl hi0 hl15 (by decide) hK hw f_b rfl dX0_hasPlace_6 ?_
    refine p_alen 1 F hK hw f_v rfl rfl dX0_hasPlace_9 ?_
    refine lv_icmp_ge (tgt := 17) hx hb dX0_hasPlace_10 (by decide) (fun c_10 => ?_) (fun c_10 => ?_)
    · skip
      refine lv_iconst (v := 0) hx hb dX0_hasPlace_17 (by decide) ?_
      exact ct_iret hx hb hr rfl hlocks hK hw dX0_hasPlace_18 (Nat.le_of_ble_eq_true rfl) (Nat.le_of_ble_eq_true rfl) ⟨rfl, Or.inr ⟨fun h => h.2 c_10, rfl⟩⟩
    · skip
      refine lv_iconst (v := 1) hx hb dX0_hasPlace_13 (by decide) ?_
      refine lv_goto (tgt := 18) hx hb dX0_hasPlace_14 (by decide) ?_
      exact ct_iret hx hb hr rfl hlocks hK hw dX0_hasPlace_18 (Nat.le_of_ble_eq_true rfl) (Nat.le_of_ble_eq_true rfl) ⟨rfl, Or.inl ⟨⟨c_1, c_10⟩, rfl⟩⟩

set_option maxHeartbeats 4000000 in
set_option maxRecDepth 100000 in
theorem c_X0_hasRun (l : Launch) (G : va_G) (Y : Nat → ClassId) (h : PH) (b v so : Nat) (sc : Int32) (nv : Nat) (fv : Nat → Int64) (fs : Nat → Int32) (p0 p1 : Int32) (f_b : pAt h b (oBook sc v so))(f_v : pAt h v (aJ Y nv fv)) : ctI l G Y pw yX0_hasRun wsX0_hasRun ({ frames := 0, cells := 0, slots := 0, locals := 0 }) [.ref b, .int p0, .int p1] h (fun r h' => h' = h ∧ ((cRun nv p0 p1 ∧ r = 1) ∨ (¬ cRun nv p0 p1 ∧ r = 0))) := by
  refine ctI.of (cc := cX0_hasRun) (maxL := 3) (ret := (some .boolean)) (by decide +kernel) rfl (Nat.le_of_ble_eq_true rfl) ?_
  intro A p e s m below meth c ls hB
  obtain ⟨F, hr, hlocks, hnm, hK, hA, hw, hl⟩ := hB
  obtain ⟨hx, hb, hml, hown, hts⟩ := id F
  have hl : lv_has ls 3 [(0, .ref b), (1, .int p0), (2, .int p1)] := hl
  have hi0 : ∀ w ∈ wsX00, w ∈ wsX0_hasRun := by decide +kernel
  have hl15 : Cond.fieldLink RX0 15 "Scriptorium$Book" "values" "[J" ∈ wsX0_hasRun := by decide +kernel
  refine lv_iload_n hx hb dX0_hasRun_0 rfl (lv_at hl 1 rfl) ?_
  refine lv_if_lt (tgt := 23) hx hb dX0_hasRun_1 (by decide) (fun c_1 => ?_) (fun c_1 => ?_)
  · skip
    refine lv_iconst (v := 0) hx hb dX0_hasRun_23 (by decide) ?_
    exact ct_iret hx hb hr rfl hlocks hK hw dX0_hasRun_24 (Nat.le_of_ble_eq_true rfl) (Nat.le_of_ble_eq_true rfl) ⟨rfl, Or.inr ⟨fun h => h.1 c_1, rfl⟩⟩
  · skip
    refine lv_iload_n hx hb dX0_hasRun_4 rfl (lv_at hl 2 rfl) ?_
    refine lv_if_lt (tgt := 23) hx hb dX0_hasRun_5 (by decide) (fun c_5 => ?_) (fun c_5 => ?_)
    · skip
      refine lv_iconst (v := 0) hx hb dX0_hasRun_23 (by decide) ?_
      exact ct_iret hx hb hr rfl hlocks hK hw dX0_hasRun_24 (Nat.le_of_ble_eq_true rfl) (Nat.le_of_ble_eq_true rfl) ⟨rfl, Or.inr ⟨fun h => h.2.1 c_5, rfl⟩⟩
    · skip
      refine lv_iload_n hx hb dX0_hasRun_8 rfl (lv_at hl 1 rfl) ?_
      refine lv_aload_n hx hb dX0_hasRun_9 rfl (lv_at hl 0 rfl) ?_
      refine p_get (ci := 0) (C := RX0) (T := TX0) (N := 3) 1 F rfl hi0 hl15 (by decide) hK hw f_b rfl dX0_hasRun_10 ?_
      refine p_alen 1 F hK hw f_v rfl rfl dX0_hasRun_13 ?_
      refine lv_iload_n hx hb dX0_hasRun_14 rfl (lv_at hl 2 rfl) ?_
      refine lv_isub hx hb dX0_hasRun_15 ?_
      refine lv_icmp_gt (tgt := 23) hx hb dX0_hasRun_16 (by decide) (fun c_16 => ?_) (fun c_16 => ?_)
      · skip
        refine lv_iconst (v := 0) hx hb dX0_hasRun_23 (by decide) ?_
        exact ct_iret hx hb hr rfl hlocks hK hw dX0_hasRun_24 (Nat.le_of_ble_eq_true rfl) (Nat.le_of_ble_eq_true rfl) ⟨rfl, Or.inr ⟨fun h => h.2.2 c_16, rfl⟩⟩
      · skip
        refine lv_iconst (v := 1) hx hb dX0_hasRun_19 (by decide) ?_
        refine lv_goto (tgt := 24) hx hb dX0_hasRun_20 (by decide) ?_
        exact ct_iret hx hb hr rfl hlocks hK hw dX0_hasRun_24 (Nat.le_of_ble_eq_true rfl) (Nat.le_of_ble_eq_true rfl) ⟨rfl, Or.inl ⟨⟨c_1, c_5, c_16⟩, rfl⟩⟩

set_option maxHeartbeats 4000000 in
set_option maxRecDepth 100000 in
theorem c_X0_admits (l : Launch) (G : va_G) (Y : Nat → ClassId) (h : PH) (b v so : Nat) (sc : Int32) (p0 : Int32) (f_b : pAt h b (oBook sc v so)) : ctI l G Y pw yX0_admits wsX0_admits ({ frames := 0, cells := 0, slots := 0, locals := 0 }) [.ref b, .int p0] h (fun r h' => h' = h ∧ ((cAdm sc p0 ∧ r = 1) ∨ (¬ cAdm sc p0 ∧ r = 0))) := by
  refine ctI.of (cc := cX0_admits) (maxL := 2) (ret := (some .boolean)) (by decide +kernel) rfl (Nat.le_of_ble_eq_true rfl) ?_
  intro A p e s m below meth c ls hB
  obtain ⟨F, hr, hlocks, hnm, hK, hA, hw, hl⟩ := hB
  obtain ⟨hx, hb, hml, hown, hts⟩ := id F
  have hl : lv_has ls 2 [(0, .ref b), (1, .int p0)] := hl
  have hi0 : ∀ w ∈ wsX00, w ∈ wsX0_admits := by decide +kernel
  have hl9 : Cond.fieldLink RX0 9 "Scriptorium$Book" "script" "I" ∈ wsX0_admits := by decide +kernel
  refine lv_aload_n hx hb dX0_admits_0 rfl (lv_at hl 0 rfl) ?_
  refine p_get (ci := 0) (C := RX0) (T := TX0) (N := 3) 0 F rfl hi0 hl9 (by decide) hK hw f_b rfl dX0_admits_1 ?_
  refine lv_bipush (v := 7) hx hb dX0_admits_4 (by decide) ?_
  refine lv_icmp_ne (tgt := 20) hx hb dX0_admits_6 (by decide) (fun c_6 => ?_) (fun c_6 => ?_)
  · skip
    refine lv_aload_n hx hb dX0_admits_20 rfl (lv_at hl 0 rfl) ?_
    refine p_get (ci := 0) (C := RX0) (T := TX0) (N := 3) 0 F rfl hi0 hl9 (by decide) hK hw f_b rfl dX0_admits_21 ?_
    refine lv_bipush (v := 8) hx hb dX0_admits_24 (by decide) ?_
    refine lv_icmp_ne (tgt := 34) hx hb dX0_admits_26 (by decide) (fun c_26 => ?_) (fun c_26 => ?_)
    · skip
      refine lv_iconst (v := 1) hx hb dX0_admits_34 (by decide) ?_
      refine lv_goto (tgt := 39) hx hb dX0_admits_35 (by decide) ?_
      exact ct_iret hx hb hr rfl hlocks hK hw dX0_admits_39 (Nat.le_of_ble_eq_true rfl) (Nat.le_of_ble_eq_true rfl) ⟨rfl, Or.inl ⟨⟨fun q => absurd q c_6, fun q => absurd q c_26⟩, rfl⟩⟩
    · skip
      refine lv_iload_n hx hb dX0_admits_29 rfl (lv_at hl 1 rfl) ?_
      refine lv_iconst (v := 1) hx hb dX0_admits_30 (by decide) ?_
      refine lv_icmp_eq (tgt := 38) hx hb dX0_admits_31 (by decide) (fun c_31 => ?_) (fun c_31 => ?_)
      · skip
        refine lv_iconst (v := 0) hx hb dX0_admits_38 (by decide) ?_
        exact ct_iret hx hb hr rfl hlocks hK hw dX0_admits_39 (Nat.le_of_ble_eq_true rfl) (Nat.le_of_ble_eq_true rfl) ⟨rfl, Or.inr ⟨fun h => h.2 c_26 c_31, rfl⟩⟩
      · skip
        refine lv_iconst (v := 1) hx hb dX0_admits_34 (by decide) ?_
        refine lv_goto (tgt := 39) hx hb dX0_admits_35 (by decide) ?_
        exact ct_iret hx hb hr rfl hlocks hK hw dX0_admits_39 (Nat.le_of_ble_eq_true rfl) (Nat.le_of_ble_eq_true rfl) ⟨rfl, Or.inl ⟨⟨fun q => absurd q c_6, fun _ => c_31⟩, rfl⟩⟩
  · skip
    refine lv_iload_n hx hb dX0_admits_9 rfl (lv_at hl 1 rfl) ?_
    refine lv_iconst (v := 2) hx hb dX0_admits_10 (by decide) ?_
    refine lv_icmp_eq (tgt := 18) hx hb dX0_admits_11 (by decide) (fun c_11 => ?_) (fun c_11 => ?_)
    · skip
      refine lv_iconst (v := 0) hx hb dX0_admits_18 (by decide) ?_
      exact ct_iret hx hb hr rfl hlocks hK hw dX0_admits_19 (Nat.le_of_ble_eq_true rfl) (Nat.le_of_ble_eq_true rfl) ⟨rfl, Or.inr ⟨fun h => h.1 c_6 c_11, rfl⟩⟩
    · skip
      refine lv_iconst (v := 1) hx hb dX0_admits_14 (by decide) ?_
      refine lv_goto (tgt := 19) hx hb dX0_admits_15 (by decide) ?_
      exact ct_iret hx hb hr rfl hlocks hK hw dX0_admits_19 (Nat.le_of_ble_eq_true rfl) (Nat.le_of_ble_eq_true rfl) ⟨rfl, Or.inl ⟨⟨fun _ => c_11, fun q => absurd (c_6.symm.trans q) (by decide)⟩, rfl⟩⟩

set_option maxHeartbeats 4000000 in
set_option maxRecDepth 100000 in
theorem c_X0_cut (l : Launch) (G : va_G) (Y : Nat → ClassId) (h : PH) (b v so : Nat) (sc : Int32) (v0 : Int64) (f_b : pAt h b (oBook sc v so))(hk : sc = 0 ∨ sc = 1 ∨ sc = 2 ∨ sc = 3 ∨ sc = 4 ∨ sc = 5) : ctJ l G Y pw yX0_cut wsX0_cut ({ frames := 0, cells := 0, slots := 0, locals := 0 }) [.ref b, .long v0] h (fun r h' => h' = h ∧ r = cCut sc v0) := by
  refine ctJ.of (cc := cX0_cut) (maxL := 3) (ret := (some .long)) (by decide +kernel) rfl (Nat.le_of_ble_eq_true rfl) ?_
  intro A p e s m below meth c ls hB
  obtain ⟨F, hr, hlocks, hnm, hK, hA, hw, hl⟩ := hB
  obtain ⟨hx, hb, hml, hown, hts⟩ := id F
  have hl : lv_has ls 3 [(0, .ref b), (1, .long v0)] := hl
  have hi0 : ∀ w ∈ wsX00, w ∈ wsX0_cut := by decide +kernel
  have hl9 : Cond.fieldLink RX0 9 "Scriptorium$Book" "script" "I" ∈ wsX0_cut := by decide +kernel
  refine lv_aload_n hx hb dX0_cut_0 rfl (lv_at hl 0 rfl) ?_
  refine p_get (ci := 0) (C := RX0) (T := TX0) (N := 3) 0 F rfl hi0 hl9 (by decide) hK hw f_b rfl dX0_cut_1 ?_
  rcases hk with rfl | rfl | rfl | rfl | rfl | rfl
  · skip
    refine lv_tableIn (off := 40) (tgt := 44) hx hb dX0_cut_4 (by decide) (by decide) (by decide) (by decide) ?_
    refine lv_lload_n hx hb dX0_cut_44 rfl (lv_at hl 1 rfl) ?_
    refine lv_l2i hx hb dX0_cut_45 rfl ?_
    refine lv_i2b hx hb dX0_cut_46 rfl ?_
    refine lv_i2l hx hb dX0_cut_47 rfl ?_
    exact ct_lret hx hb hr hlocks hK hw dX0_cut_48 (Nat.le_of_ble_eq_true rfl) (Nat.le_of_ble_eq_true rfl) ⟨rfl, rfl⟩
  · skip
    refine lv_tableIn (off := 45) (tgt := 49) hx hb dX0_cut_4 (by decide) (by decide) (by decide) (by decide) ?_
    refine lv_lload_n hx hb dX0_cut_49 rfl (lv_at hl 1 rfl) ?_
    refine lv_l2i hx hb dX0_cut_50 rfl ?_
    refine lv_i2c hx hb dX0_cut_51 rfl ?_
    refine lv_i2l hx hb dX0_cut_52 rfl ?_
    exact ct_lret hx hb hr hlocks hK hw dX0_cut_53 (Nat.le_of_ble_eq_true rfl) (Nat.le_of_ble_eq_true rfl) ⟨rfl, rfl⟩
  · skip
    refine lv_tableIn (off := 50) (tgt := 54) hx hb dX0_cut_4 (by decide) (by decide) (by decide) (by decide) ?_
    refine lv_lload_n hx hb dX0_cut_54 rfl (lv_at hl 1 rfl) ?_
    refine lv_l2i hx hb dX0_cut_55 rfl ?_
    refine lv_i2s hx hb dX0_cut_56 rfl ?_
    refine lv_i2l hx hb dX0_cut_57 rfl ?_
    exact ct_lret hx hb hr hlocks hK hw dX0_cut_58 (Nat.le_of_ble_eq_true rfl) (Nat.le_of_ble_eq_true rfl) ⟨rfl, rfl⟩
  · skip
    refine lv_tableIn (off := 55) (tgt := 59) hx hb dX0_cut_4 (by decide) (by decide) (by decide) (by decide) ?_
    refine lv_lload_n hx hb dX0_cut_59 rfl (lv_at hl 1 rfl) ?_
    refine lv_l2i hx hb dX0_cut_60 rfl ?_
    refine lv_i2l hx hb dX0_cut_61 rfl ?_
    exact ct_lret hx hb hr hlocks hK hw dX0_cut_62 (Nat.le_of_ble_eq_true rfl) (Nat.le_of_ble_eq_true rfl) ⟨rfl, rfl⟩
  · skip
    refine lv_tableIn (off := 63) (tgt := 67) hx hb dX0_cut_4 (by decide) (by decide) (by decide) (by decide) ?_
    refine lv_lload_n hx hb dX0_cut_67 rfl (lv_at hl 1 rfl) ?_
    exact ct_lret hx hb hr hlocks hK hw dX0_cut_68 (Nat.le_of_ble_eq_true rfl) (Nat.le_of_ble_eq_true rfl) ⟨rfl, rfl⟩
  · skip
    refine lv_tableIn (off := 59) (tgt := 63) hx hb dX0_cut_4 (by decide) (by decide) (by decide) (by decide) ?_
    refine lv_lload_n hx hb dX0_cut_63 rfl (lv_at hl 1 rfl) ?_
    refine lv_lconst (v := 1) hx hb dX0_cut_64 (by decide) ?_
    refine lv_land hx hb dX0_cut_65 ?_
    exact ct_lret hx hb hr hlocks hK hw dX0_cut_66 (Nat.le_of_ble_eq_true rfl) (Nat.le_of_ble_eq_true rfl) ⟨rfl, rfl⟩

set_option maxHeartbeats 4000000 in
set_option maxRecDepth 100000 in
theorem c_X0_paint (l : Launch) (G : va_G) (Y : Nat → ClassId) (h : PH) (b v so : Nat) (sc : Int32) (nv : Nat) (fv : Nat → Int64) (fs : Nat → Int32) (p0 p1 : Int32) (v0 : Int64) (f_b : pAt h b (oBook sc v so))(f_v : pAt h v (aJ Y nv fv))(f_s : pAt h so (aI Y nv fs))(hin : vp_in p0 nv) : ctI l G Y pw yX0_paint wsX0_paint ({ frames := 1, cells := 0, slots := 0, locals := 30 }) [.ref b, .int p0, .int p1, .long v0] h (fun r h' => (¬ cAdm sc p1 ∧ r = 0 ∧ h' = h) ∨ (cAdm sc p1 ∧ r = 1 ∧ pFr h h' [so, v] ∧ pAt h' v (aJ Y nv (vp_updL fv (cl p0) (if p1 = 0 then 0 else v0.toInt32.toInt64))) ∧ pAt h' so (aI Y nv (upd fs (cl p0) p1)))) := by
  refine ctI.of (cc := cX0_paint) (maxL := 5) (ret := (some .boolean)) (by decide +kernel) rfl (Nat.le_of_ble_eq_true rfl) ?_
  intro A p e s m below meth c ls hB
  obtain ⟨F, hr, hlocks, hnm, hK, hA, hw, hl⟩ := hB
  obtain ⟨hx, hb, hml, hown, hts⟩ := id F
  have hl : lv_has ls 5 [(0, .ref b), (1, .int p0), (2, .int p1), (3, .long v0)] := hl
  have hi0 : ∀ w ∈ wsX00, w ∈ wsX0_paint := by decide +kernel
  have hl15 : Cond.fieldLink RX0 15 "Scriptorium$Book" "values" "[J" ∈ wsX0_paint := by decide +kernel
  have hl19 : Cond.fieldLink RX0 19 "Scriptorium$Book" "sorts" "[I" ∈ wsX0_paint := by decide +kernel
  refine lv_aload_n hx hb dX0_paint_0 rfl (lv_at hl 0 rfl) ?_
  refine lv_iload_n hx hb dX0_paint_1 rfl (lv_at hl 2 rfl) ?_
  refine (c_X0_admits l G Y _ _ _ _ _ _ f_b).callV F (cwV 1 hts gX0_paint_X0_admits rfl rfl rfl (by decide +kernel) ⟨Nat.le_of_ble_eq_true rfl, Nat.le_of_ble_eq_true rfl⟩) hK hw hA (p_recv hK hw f_b rfl) rfl rfl hl.1 (Nat.le_of_ble_eq_true rfl) dX0_paint_2 ⟨Nat.le_of_ble_eq_true rfl, Nat.le_of_ble_eq_true rfl⟩ (fun r_2 h_2 H locs hp_2 hw => ?_)
  obtain ⟨eh_2, hp_2⟩ := hp_2
  rw [eh_2] at hw
  rcases hp_2 with ⟨hq_2, rfl⟩ | ⟨hq_2, rfl⟩
  · skip
    refine lv_if_ne (tgt := 10) hx hb dX0_paint_5 (by decide) (fun c_5 => ?_) (fun c_5 => ?_)
    · skip
      refine lv_aload_n hx hb dX0_paint_10 rfl (lv_at hl 0 rfl) ?_
      refine p_get (ci := 0) (C := RX0) (T := TX0) (N := 3) 2 F rfl hi0 hl19 (by decide) hK hw f_b rfl dX0_paint_11 ?_
      refine lv_iload_n hx hb dX0_paint_14 rfl (lv_at hl 1 rfl) ?_
      refine lv_iload_n hx hb dX0_paint_15 rfl (lv_at hl 2 rfl) ?_
      have f_s_0 := f_s
      refine q_stI F hK hw f_s hin dX0_paint_16 (fun h_16 H locs f_s fr_16 hw => ?_)
      have f_b := fr_16.one f_b (f_b.kinds f_s_0 (by simp))
      have f_v := fr_16.one f_v (f_v.kinds f_s_0 (by simp))
      refine lv_aload_n hx hb dX0_paint_17 rfl (lv_at hl 0 rfl) ?_
      refine p_get (ci := 0) (C := RX0) (T := TX0) (N := 3) 1 F rfl hi0 hl15 (by decide) hK hw f_b rfl dX0_paint_18 ?_
      refine lv_iload_n hx hb dX0_paint_21 rfl (lv_at hl 1 rfl) ?_
      refine lv_iload_n hx hb dX0_paint_22 rfl (lv_at hl 2 rfl) ?_
      refine lv_if_ne (tgt := 30) hx hb dX0_paint_23 (by decide) (fun c_23 => ?_) (fun c_23 => ?_)
      · skip
        refine lv_lload_n hx hb dX0_paint_30 rfl (lv_at hl 3 rfl) ?_
        refine lv_l2i hx hb dX0_paint_31 rfl ?_
        refine lv_i2l hx hb dX0_paint_32 rfl ?_
        refine lv_topl (fun v9 ev9 => ?_)
        obtain rfl : v9 = (if p1 = 0 then 0 else v0.toInt32.toInt64) := ev9.trans (by rw [if_neg c_23])
        have f_v_0 := f_v
        refine q_stJ F hK hw f_v hin dX0_paint_33 (fun h_33 H locs f_v fr_33 hw => ?_)
        have f_b := fr_33.one f_b (f_b.kinds f_v_0 (by simp))
        have f_s := fr_33.one f_s (f_s.kinds f_v_0 (by simp))
        refine lv_iconst (v := 1) hx hb dX0_paint_34 (by decide) ?_
        exact ct_iret hx hb hr rfl hlocks hK hw dX0_paint_35 (Nat.le_of_ble_eq_true rfl) (Nat.le_of_ble_eq_true rfl) (Or.inr ⟨hq_2, rfl, fr_16.trans fr_33, f_v, f_s⟩)
      · skip
        refine lv_lconst (v := 0) hx hb dX0_paint_26 (by decide) ?_
        refine lv_goto (tgt := 33) hx hb dX0_paint_27 (by decide) ?_
        refine lv_topl (fun v9 ev9 => ?_)
        obtain rfl : v9 = (if p1 = 0 then 0 else v0.toInt32.toInt64) := ev9.trans (by rw [if_pos c_23])
        have f_v_0 := f_v
        refine q_stJ F hK hw f_v hin dX0_paint_33 (fun h_33 H locs f_v fr_33 hw => ?_)
        have f_b := fr_33.one f_b (f_b.kinds f_v_0 (by simp))
        have f_s := fr_33.one f_s (f_s.kinds f_v_0 (by simp))
        refine lv_iconst (v := 1) hx hb dX0_paint_34 (by decide) ?_
        exact ct_iret hx hb hr rfl hlocks hK hw dX0_paint_35 (Nat.le_of_ble_eq_true rfl) (Nat.le_of_ble_eq_true rfl) (Or.inr ⟨hq_2, rfl, fr_16.trans fr_33, f_v, f_s⟩)
    · exact absurd c_5 (by decide)
  · skip
    refine lv_if_ne (tgt := 10) hx hb dX0_paint_5 (by decide) (fun c_5 => ?_) (fun c_5 => ?_)
    · exact absurd rfl c_5
    · skip
      refine lv_iconst (v := 0) hx hb dX0_paint_8 (by decide) ?_
      exact ct_iret hx hb hr rfl hlocks hK hw dX0_paint_9 (Nat.le_of_ble_eq_true rfl) (Nat.le_of_ble_eq_true rfl) (Or.inl ⟨hq_2, rfl, rfl⟩)

set_option maxHeartbeats 4000000 in
set_option maxRecDepth 100000 in
theorem c_X0_signAt (l : Launch) (G : va_G) (Y : Nat → ClassId) (h : PH) (b v so : Nat) (sc : Int32) (nv : Nat) (fv : Nat → Int64) (fs : Nat → Int32) (p0 : Int32) (f_b : pAt h b (oBook sc v so))(f_v : pAt h v (aJ Y nv fv))(f_s : pAt h so (aI Y nv fs))(hin : vp_in p0 nv) : ctJ l G Y pw yX0_signAt wsX0_signAt ({ frames := 1, cells := 0, slots := 0, locals := 30 }) [.ref b, .int p0] h (fun r h' => h' = h ∧ r = cSgn sc (fv (cl p0)) (fs (cl p0))) := by
  refine ctJ.of (cc := cX0_signAt) (maxL := 2) (ret := (some .long)) (by decide +kernel) rfl (Nat.le_of_ble_eq_true rfl) ?_
  intro A p e s m below meth c ls hB
  obtain ⟨F, hr, hlocks, hnm, hK, hA, hw, hl⟩ := hB
  obtain ⟨hx, hb, hml, hown, hts⟩ := id F
  have hl : lv_has ls 2 [(0, .ref b), (1, .int p0)] := hl
  have hi0 : ∀ w ∈ wsX00, w ∈ wsX0_signAt := by decide +kernel
  have hl15 : Cond.fieldLink RX0 15 "Scriptorium$Book" "values" "[J" ∈ wsX0_signAt := by decide +kernel
  have hl19 : Cond.fieldLink RX0 19 "Scriptorium$Book" "sorts" "[I" ∈ wsX0_signAt := by decide +kernel
  refine lv_aload_n hx hb dX0_signAt_0 rfl (lv_at hl 0 rfl) ?_
  refine (c_X0_hasPictures l G Y _ _ _ _ _ f_b).callV F (cwV 0 hts gX0_signAt_X0_hasPictures rfl rfl rfl (by decide +kernel) ⟨Nat.le_of_ble_eq_true rfl, Nat.le_of_ble_eq_true rfl⟩) hK hw hA (p_recv hK hw f_b rfl) rfl rfl hl.1 (Nat.le_of_ble_eq_true rfl) dX0_signAt_1 ⟨Nat.le_of_ble_eq_true rfl, Nat.le_of_ble_eq_true rfl⟩ (fun r_1 h_1 H locs hp_1 hw => ?_)
  obtain ⟨eh_1, hp_1⟩ := hp_1
  rw [eh_1] at hw
  rcases hp_1 with ⟨hq_1, rfl⟩ | ⟨hq_1, rfl⟩
  · skip
    refine lv_if_eq (tgt := 28) hx hb dX0_signAt_4 (by decide) (fun c_4 => ?_) (fun c_4 => ?_)
    · exact absurd c_4 (by decide)
    · skip
      refine lv_ldc2 hx hb hown (hts (.constantLong RX0 34 (4)) (by decide +kernel)) dX0_signAt_7 ?_
      refine lv_aload_n hx hb dX0_signAt_10 rfl (lv_at hl 0 rfl) ?_
      refine p_get (ci := 0) (C := RX0) (T := TX0) (N := 3) 1 F rfl hi0 hl15 (by decide) hK hw f_b rfl dX0_signAt_11 ?_
      refine lv_iload_n hx hb dX0_signAt_14 rfl (lv_at hl 1 rfl) ?_
      refine p_ldJ F hK hw f_v hin dX0_signAt_15 ?_
      refine lv_lmul hx hb dX0_signAt_16 ?_
      refine lv_aload_n hx hb dX0_signAt_17 rfl (lv_at hl 0 rfl) ?_
      refine p_get (ci := 0) (C := RX0) (T := TX0) (N := 3) 2 F rfl hi0 hl19 (by decide) hK hw f_b rfl dX0_signAt_18 ?_
      refine lv_iload_n hx hb dX0_signAt_21 rfl (lv_at hl 1 rfl) ?_
      refine p_ildI F hK hw f_s hin dX0_signAt_22 ?_
      refine lv_i2l hx hb dX0_signAt_23 rfl ?_
      refine lv_ladd hx hb dX0_signAt_24 ?_
      refine lv_goto (tgt := 34) hx hb dX0_signAt_25 (by decide) ?_
      exact ct_lret hx hb hr hlocks hK hw dX0_signAt_34 (Nat.le_of_ble_eq_true rfl) (Nat.le_of_ble_eq_true rfl) ⟨rfl, by unfold cSgn; rw [if_pos hq_1]⟩
  · skip
    refine lv_if_eq (tgt := 28) hx hb dX0_signAt_4 (by decide) (fun c_4 => ?_) (fun c_4 => ?_)
    · skip
      refine lv_aload_n hx hb dX0_signAt_28 rfl (lv_at hl 0 rfl) ?_
      refine p_get (ci := 0) (C := RX0) (T := TX0) (N := 3) 1 F rfl hi0 hl15 (by decide) hK hw f_b rfl dX0_signAt_29 ?_
      refine lv_iload_n hx hb dX0_signAt_32 rfl (lv_at hl 1 rfl) ?_
      refine p_ldJ F hK hw f_v hin dX0_signAt_33 ?_
      exact ct_lret hx hb hr hlocks hK hw dX0_signAt_34 (Nat.le_of_ble_eq_true rfl) (Nat.le_of_ble_eq_true rfl) ⟨rfl, by unfold cSgn; rw [if_neg hq_1]⟩
    · exact absurd rfl c_4

set_option maxHeartbeats 4000000 in
set_option maxRecDepth 100000 in
theorem c_X0_fittingOf (l : Launch) (G : va_G) (Y : Nat → ClassId) (h : PH) (b v so : Nat) (sc : Int32) (o v2 so2 : Nat) (sc2 : Int32) (n2 : Nat) (gs : Nat → Int32) (ii nn : Nat) (f_b : pAt h b (oBook sc v so))(f_o : pAt h o (oBook sc2 v2 so2)) (f_os : pAt h so2 (aI Y n2 gs)) (hb1 : ii + nn ≤ n2) (hb2 : n2 ≤ 40) : ctI l G Y pw yX0_fittingOf wsX0_fittingOf ({ frames := 1, cells := 0, slots := 0, locals := 30 }) [.ref b, .ref o, .int (nI ii), .int (nI nn)] h (fun r h' => h' = h ∧ ∃ st, cStop sc gs ii nn st ∧ r = nI st) := by
  refine ctI.of (cc := cX0_fittingOf) (maxL := 5) (ret := (some .int)) (by decide +kernel) rfl (Nat.le_of_ble_eq_true rfl) ?_
  intro A p e s m below meth c ls hB
  obtain ⟨F, hr, hlocks, hnm, hK, hA, hw, hl⟩ := hB
  obtain ⟨hx, hb, hml, hown, hts⟩ := id F
  have hl : lv_has ls 5 [(0, .ref b), (1, .ref o), (2, .int (nI ii)), (3, .int (nI nn))] := hl
  have hi0 : ∀ w ∈ wsX00, w ∈ wsX0_fittingOf := by decide +kernel
  have hl19 : Cond.fieldLink RX0 19 "Scriptorium$Book" "sorts" "[I" ∈ wsX0_fittingOf := by decide +kernel
  refine lv_iconst (v := 0) hx hb dX0_fittingOf_0 (by decide) ?_
  refine lv_istore (lv' := [(4, .int _), (0, .ref _), (1, .ref _), (2, .int _), (3, .int _)]) hx hb dX0_fittingOf_1 hl (by decide) rfl (fun ls hl => ?_)
  refine W_loop (σ := Nat) 3 (fun n (t : Nat) H locs ls => n = nn - t ∧ t ≤ nn ∧ (∀ k, k < t → cAdm sc (gs (ii + k))) ∧ wW G A s.heap (pw h) H locs ∧ lv_has ls 5 [(4, .int (nI t)), (0, .ref b), (1, .ref o), (2, .int (nI ii)), (3, .int (nI nn))]) ?_ (n := nn) (x := 0) ⟨rfl, by omega, lt_0, hw, hl⟩
  intro n t H locs ls hI ih
  obtain ⟨hn, ht, hall, hw, hl⟩ := hI
  refine lv_iload hx hb dX0_fittingOf_3 (lv_at hl 0 rfl) ?_
  refine lv_iload_n hx hb dX0_fittingOf_5 rfl (lv_at hl 4 rfl) ?_
  refine lv_icmp_ge (tgt := 34) hx hb dX0_fittingOf_6 (by decide) (fun c_6 => ?_) (fun c_6 => ?_)
  · skip
    have htn : t = nn := by
      have := le_of_c (by omega) (by omega) c_6
      omega
    subst htn
    refine lv_iload_n hx hb dX0_fittingOf_34 rfl (lv_at hl 4 rfl) ?_
    exact ct_iret hx hb hr (vp_nar_int _) hlocks hK hw dX0_fittingOf_35 (Nat.le_of_ble_eq_true rfl) (Nat.le_of_ble_eq_true rfl) ⟨rfl, t, ⟨Nat.le_refl _, hall, fun q => absurd q (Nat.lt_irrefl _)⟩, rfl⟩
  · skip
    have htn : t < nn := lt_of_c (by omega) (by omega) c_6
    refine lv_aload_n hx hb dX0_fittingOf_9 rfl (lv_at hl 1 rfl) ?_
    refine lv_aload_n hx hb dX0_fittingOf_10 rfl (lv_at hl 2 rfl) ?_
    refine p_get (ci := 0) (C := RX0) (T := TX0) (N := 3) 2 F rfl hi0 hl19 (by decide) hK hw f_o rfl dX0_fittingOf_11 ?_
    refine lv_iload_n hx hb dX0_fittingOf_14 rfl (lv_at hl 3 rfl) ?_
    refine lv_iload hx hb dX0_fittingOf_15 (lv_at hl 0 rfl) ?_
    refine lv_iadd hx hb dX0_fittingOf_17 ?_
    refine p_ildI F hK hw f_os (by rw [nI_add]; exact vp_in_nI (by omega) (by omega)) dX0_fittingOf_18 ?_
    rw [nI_add, cl_nI (show ii + t < 2 ^ 31 by omega)]
    refine (c_X0_admits l G Y _ _ _ _ _ _ f_b).callV F (cwV 1 hts gX0_fittingOf_X0_admits rfl rfl rfl (by decide +kernel) ⟨Nat.le_of_ble_eq_true rfl, Nat.le_of_ble_eq_true rfl⟩) hK hw hA (p_recv hK hw f_b rfl) rfl rfl hl.1 (Nat.le_of_ble_eq_true rfl) dX0_fittingOf_19 ⟨Nat.le_of_ble_eq_true rfl, Nat.le_of_ble_eq_true rfl⟩ (fun r_19 h_19 H locs hp_19 hw => ?_)
    obtain ⟨eh_19, hp_19⟩ := hp_19
    rw [eh_19] at hw
    rcases hp_19 with ⟨hq_19, rfl⟩ | ⟨hq_19, rfl⟩
    · skip
      refine lv_if_ne (tgt := 28) hx hb dX0_fittingOf_22 (by decide) (fun c_22 => ?_) (fun c_22 => ?_)
      · skip
        refine lv_iinc (lv' := [(4, .int _), (0, .ref _), (1, .ref _), (2, .int _), (3, .int _)]) hx hb dX0_fittingOf_28 hl (k := 0) rfl rfl (by decide) rfl (fun ls hl => ?_)
        refine lv_goto (tgt := 3) hx hb dX0_fittingOf_31 (by decide) ?_
        exact ih _ (t + 1) _ _ _ (by omega) ⟨rfl, by omega, lt_s hall hq_19, hw, by rw [nI_succ]; exact hl⟩
      · exact absurd c_22 (by decide)
    · skip
      refine lv_if_ne (tgt := 28) hx hb dX0_fittingOf_22 (by decide) (fun c_22 => ?_) (fun c_22 => ?_)
      · exact absurd rfl c_22
      · skip
        refine lv_iload hx hb dX0_fittingOf_25 (lv_at hl 0 rfl) ?_
        exact ct_iret hx hb hr (vp_nar_int _) hlocks hK hw dX0_fittingOf_27 (Nat.le_of_ble_eq_true rfl) (Nat.le_of_ble_eq_true rfl) ⟨rfl, t, ⟨by omega, hall, fun _ => hq_19⟩, rfl⟩

set_option maxHeartbeats 4000000 in
set_option maxRecDepth 100000 in
theorem c_X0_take (l : Launch) (G : va_G) (Y : Nat → ClassId) (h : PH) (b v so : Nat) (sc : Int32) (nv : Nat) (fv : Nat → Int64) (fs : Nat → Int32) (o v2 so2 : Nat) (sc2 : Int32) (n2 : Nat) (gv : Nat → Int64) (gs : Nat → Int32) (ii jj nn : Nat) (f_b : pAt h b (oBook sc v so))(f_v : pAt h v (aJ Y nv fv))(f_s : pAt h so (aI Y nv fs))(f_o : pAt h o (oBook sc2 v2 so2)) (f_ov : pAt h v2 (aJ Y n2 gv)) (f_os : pAt h so2 (aI Y n2 gs)) (hb1 : ii + nn ≤ n2) (hb2 : jj + nn ≤ nv) (hb3 : n2 ≤ 40) (hb4 : nv ≤ 40) : ctV l G Y pw yX0_take wsX0_take ({ frames := 1, cells := 0, slots := 0, locals := 60 }) [.ref b, .ref o, .int (nI ii), .int (nI jj), .int (nI nn)] h (fun h' => pFr h h' [v, so] ∧ pAt h' v (aJ Y nv (va_cpy gv fv ii jj nn)) ∧ pAt h' so (aI Y nv (va_cpy gs fs ii jj nn))) := by
  refine ctV.of (cc := cX0_take) (maxL := 5) (ret := none) (by decide +kernel) rfl (Nat.le_of_ble_eq_true rfl) ?_
  intro A p e s m below meth c ls hB
  obtain ⟨F, hr, hlocks, hnm, hK, hA, hw, hl⟩ := hB
  obtain ⟨hx, hb, hml, hown, hts⟩ := id F
  have hl : lv_has ls 5 [(0, .ref b), (1, .ref o), (2, .int (nI ii)), (3, .int (nI jj)), (4, .int (nI nn))] := hl
  have hi0 : ∀ w ∈ wsX00, w ∈ wsX0_take := by decide +kernel
  have hl15 : Cond.fieldLink RX0 15 "Scriptorium$Book" "values" "[J" ∈ wsX0_take := by decide +kernel
  have hl19 : Cond.fieldLink RX0 19 "Scriptorium$Book" "sorts" "[I" ∈ wsX0_take := by decide +kernel
  refine lv_aload_n hx hb dX0_take_0 rfl (lv_at hl 1 rfl) ?_
  refine p_get (ci := 0) (C := RX0) (T := TX0) (N := 3) 1 F rfl hi0 hl15 (by decide) hK hw f_o rfl dX0_take_1 ?_
  refine lv_iload_n hx hb dX0_take_4 rfl (lv_at hl 2 rfl) ?_
  refine lv_aload_n hx hb dX0_take_5 rfl (lv_at hl 0 rfl) ?_
  refine p_get (ci := 0) (C := RX0) (T := TX0) (N := 3) 1 F rfl hi0 hl15 (by decide) hK hw f_b rfl dX0_take_6 ?_
  refine lv_iload_n hx hb dX0_take_9 rfl (lv_at hl 3 rfl) ?_
  refine lv_iload hx hb dX0_take_10 (lv_at hl 4 rfl) ?_
  have f_v_0 := f_v
  refine q_cpJ F hl.1 (by decide +kernel) (by decide +kernel) (by decide +kernel) (by decide +kernel) hK hw f_ov f_v (nI_pos (by omega)) (nI_pos (by omega)) (nI_pos (by omega)) (by rw [cl_nI (by omega), cl_nI (by omega)]; omega) (by rw [cl_nI (by omega), cl_nI (by omega)]; omega) (Nat.le_of_ble_eq_true rfl) (by decide +kernel) dX0_take_12 (fun h_12 H locs f_v fr_12 hw => ?_)
  rw [cl_nI (show ii < 2 ^ 31 by omega), cl_nI (show jj < 2 ^ 31 by omega), cl_nI (show nn < 2 ^ 31 by omega)] at f_v
  have f_b := fr_12.one f_b (f_b.kinds f_v_0 (by simp))
  have f_s := fr_12.one f_s (f_s.kinds f_v_0 (by simp))
  have f_o := fr_12.one f_o (f_o.kinds f_v_0 (by simp))
  have f_os := fr_12.one f_os (f_os.kinds f_v_0 (by simp))
  refine lv_aload_n hx hb dX0_take_15 rfl (lv_at hl 1 rfl) ?_
  refine p_get (ci := 0) (C := RX0) (T := TX0) (N := 3) 2 F rfl hi0 hl19 (by decide) hK hw f_o rfl dX0_take_16 ?_
  refine lv_iload_n hx hb dX0_take_19 rfl (lv_at hl 2 rfl) ?_
  refine lv_aload_n hx hb dX0_take_20 rfl (lv_at hl 0 rfl) ?_
  refine p_get (ci := 0) (C := RX0) (T := TX0) (N := 3) 2 F rfl hi0 hl19 (by decide) hK hw f_b rfl dX0_take_21 ?_
  refine lv_iload_n hx hb dX0_take_24 rfl (lv_at hl 3 rfl) ?_
  refine lv_iload hx hb dX0_take_25 (lv_at hl 4 rfl) ?_
  have f_s_0 := f_s
  refine q_cpI F hl.1 (by decide +kernel) (by decide +kernel) (by decide +kernel) (by decide +kernel) hK hw f_os f_s (nI_pos (by omega)) (nI_pos (by omega)) (nI_pos (by omega)) (by rw [cl_nI (by omega), cl_nI (by omega)]; omega) (by rw [cl_nI (by omega), cl_nI (by omega)]; omega) (Nat.le_of_ble_eq_true rfl) (by decide +kernel) dX0_take_27 (fun h_27 H locs f_s fr_27 hw => ?_)
  rw [cl_nI (show ii < 2 ^ 31 by omega), cl_nI (show jj < 2 ^ 31 by omega), cl_nI (show nn < 2 ^ 31 by omega)] at f_s
  have f_b := fr_27.one f_b (f_b.kinds f_s_0 (by simp))
  have f_v := fr_27.one f_v (f_v.kinds f_s_0 (by simp))
  have f_o := fr_27.one f_o (f_o.kinds f_s_0 (by simp))
  exact ct_vret hx hb hr hlocks hK hw dX0_take_30 (Nat.le_of_ble_eq_true rfl) (Nat.le_of_ble_eq_true rfl) ⟨fr_12.trans fr_27, f_v, f_s⟩

set_option maxHeartbeats 4000000 in
set_option maxRecDepth 100000 in
theorem c_J9_floorMod_7cf53 (l : Launch) (G : va_G) (Y : Nat → ClassId)  {S : Type} (wf : S → va_W) (u : S) (p0 p1 : Int32) (hy : ¬ p1 = 0) : ctI l G Y wf yJ9_floorMod_7cf53 wsJ9_floorMod_7cf53 ({ frames := 0, cells := 0, slots := 0, locals := 0 }) [.int p0, .int p1] u (fun r u' => u' = u ∧ r = jFM p0 p1) := by
  refine ctI.ofF (cc := cJ9_floorMod_7cf53) (maxL := 3) (ret := (some .int)) (by decide +kernel) rfl (Nat.le_of_ble_eq_true rfl) ?_
  intro A p e s m below meth c ls hB
  obtain ⟨F, hr, hlocks, hnm, hK, hA, hw, hl⟩ := hB
  obtain ⟨hx, hb, hml, hown, hts⟩ := id F
  have hl : lv_has ls 3 [(0, .int p0), (1, .int p1)] := hl
  refine lv_iload_n hx hb dJ9_floorMod_7cf53_0 rfl (lv_at hl 0 rfl) ?_
  refine lv_iload_n hx hb dJ9_floorMod_7cf53_1 rfl (lv_at hl 1 rfl) ?_
  refine lv_irem hx hb dJ9_floorMod_7cf53_2 hy ?_
  refine lv_istore_n (lv' := [(2, .int _), (0, .int _), (1, .int _)]) hx hb dJ9_floorMod_7cf53_3 rfl hl (by decide) rfl (fun ls hl => ?_)
  refine lv_iload_n hx hb dJ9_floorMod_7cf53_4 rfl (lv_at hl 1 rfl) ?_
  refine lv_iload_n hx hb dJ9_floorMod_7cf53_5 rfl (lv_at hl 2 rfl) ?_
  refine lv_ixor hx hb dJ9_floorMod_7cf53_6 ?_
  refine lv_if_ge (tgt := 18) hx hb dJ9_floorMod_7cf53_7 (by decide) (fun c_7 => ?_) (fun c_7 => ?_)
  · skip
    refine lv_iload_n hx hb dJ9_floorMod_7cf53_18 rfl (lv_at hl 0 rfl) ?_
    exact ct_iret hx hb hr (vp_nar_int _) hlocks hK hw dJ9_floorMod_7cf53_19 (Nat.le_of_ble_eq_true rfl) (Nat.le_of_ble_eq_true rfl) ⟨rfl, by unfold jFM; rw [if_pos c_7]⟩
  · skip
    refine lv_iload_n hx hb dJ9_floorMod_7cf53_10 rfl (lv_at hl 0 rfl) ?_
    refine lv_if_eq (tgt := 18) hx hb dJ9_floorMod_7cf53_11 (by decide) (fun c_11 => ?_) (fun c_11 => ?_)
    · skip
      refine lv_iload_n hx hb dJ9_floorMod_7cf53_18 rfl (lv_at hl 0 rfl) ?_
      exact ct_iret hx hb hr (vp_nar_int _) hlocks hK hw dJ9_floorMod_7cf53_19 (Nat.le_of_ble_eq_true rfl) (Nat.le_of_ble_eq_true rfl) ⟨rfl, by unfold jFM; rw [if_neg c_7, if_pos c_11]⟩
    · skip
      refine lv_iload_n hx hb dJ9_floorMod_7cf53_14 rfl (lv_at hl 0 rfl) ?_
      refine lv_iload_n hx hb dJ9_floorMod_7cf53_15 rfl (lv_at hl 2 rfl) ?_
      refine lv_iadd hx hb dJ9_floorMod_7cf53_16 ?_
      exact ct_iret hx hb hr (vp_nar_int _) hlocks hK hw dJ9_floorMod_7cf53_17 (Nat.le_of_ble_eq_true rfl) (Nat.le_of_ble_eq_true rfl) ⟨rfl, by unfold jFM; rw [if_neg c_7, if_neg c_11]⟩

set_option maxHeartbeats 4000000 in
set_option maxRecDepth 100000 in
theorem c_X1_has (l : Launch) (G : va_G) (Y : Nat → ClassId) (h : PH) (q a1 a2 a3 a4 : Nat) (nx he : Int32) (p0 : Int32) (f_q : pAt h q (oChr a1 a2 a3 a4 nx he)) : ctI l G Y pw yX1_has wsX1_has ({ frames := 0, cells := 0, slots := 0, locals := 0 }) [.ref q, .int p0] h (fun r h' => h' = h ∧ (((¬ p0 < 0 ∧ ¬ he ≤ p0) ∧ r = 1) ∨ (¬ (¬ p0 < 0 ∧ ¬ he ≤ p0) ∧ r = 0))) := by
  refine ctI.of (cc := cX1_has) (maxL := 2) (ret := (some .boolean)) (by decide +kernel) rfl (Nat.le_of_ble_eq_true rfl) ?_
  intro A p e s m below meth c ls hB
  obtain ⟨F, hr, hlocks, hnm, hK, hA, hw, hl⟩ := hB
  obtain ⟨hx, hb, hml, hown, hts⟩ := id F
  have hl : lv_has ls 2 [(0, .ref q), (1, .int p0)] := hl
  have hi1 : ∀ w ∈ wsX10, w ∈ wsX1_has := by decide +kernel
  have hl24 : Cond.fieldLink RX1 24 "Scriptorium$Chronicle" "held" "I" ∈ wsX1_has := by decide +kernel
  refine lv_iload_n hx hb dX1_has_0 rfl (lv_at hl 1 rfl) ?_
  refine lv_if_lt (tgt := 16) hx hb dX1_has_1 (by decide) (fun c_1 => ?_) (fun c_1 => ?_)
  · skip
    refine lv_iconst (v := 0) hx hb dX1_has_16 (by decide) ?_
    exact ct_iret hx hb hr rfl hlocks hK hw dX1_has_17 (Nat.le_of_ble_eq_true rfl) (Nat.le_of_ble_eq_true rfl) ⟨rfl, Or.inr ⟨fun h => h.1 c_1, rfl⟩⟩
  · skip
    refine lv_iload_n hx hb dX1_has_4 rfl (lv_at hl 1 rfl) ?_
    refine lv_aload_n hx hb dX1_has_5 rfl (lv_at hl 0 rfl) ?_
    refine p_get (ci := 1) (C := RX1) (T := TX1) (N := 6) 5 F rfl hi1 hl24 (by decide) hK hw f_q rfl dX1_has_6 ?_
    refine lv_icmp_ge (tgt := 16) hx hb dX1_has_9 (by decide) (fun c_9 => ?_) (fun c_9 => ?_)
    · skip
      refine lv_iconst (v := 0) hx hb dX1_has_16 (by decide) ?_
      exact ct_iret hx hb hr rfl hlocks hK hw dX1_has_17 (Nat.le_of_ble_eq_true rfl) (Nat.le_of_ble_eq_true rfl) ⟨rfl, Or.inr ⟨fun h => h.2 c_9, rfl⟩⟩
    · skip
      refine lv_iconst (v := 1) hx hb dX1_has_12 (by decide) ?_
      refine lv_goto (tgt := 17) hx hb dX1_has_13 (by decide) ?_
      exact ct_iret hx hb hr rfl hlocks hK hw dX1_has_17 (Nat.le_of_ble_eq_true rfl) (Nat.le_of_ble_eq_true rfl) ⟨rfl, Or.inl ⟨⟨c_1, c_9⟩, rfl⟩⟩

set_option maxHeartbeats 4000000 in
set_option maxRecDepth 100000 in
theorem c_X1_rowOf (l : Launch) (G : va_G) (Y : Nat → ClassId) (h : PH) (q a1 a2 a3 a4 : Nat) (nx he : Int32) (p0 : Int32) (f_q : pAt h q (oChr a1 a2 a3 a4 nx he)) : ctI l G Y pw yX1_rowOf wsX1_rowOf ({ frames := 1, cells := 0, slots := 0, locals := 30 }) [.ref q, .int p0] h (fun r h' => h' = h ∧ r = jFM (nx - 1 - p0) 16) := by
  refine ctI.of (cc := cX1_rowOf) (maxL := 2) (ret := (some .int)) (by decide +kernel) rfl (Nat.le_of_ble_eq_true rfl) ?_
  intro A p e s m below meth c ls hB
  obtain ⟨F, hr, hlocks, hnm, hK, hA, hw, hl⟩ := hB
  obtain ⟨hx, hb, hml, hown, hts⟩ := id F
  have hl : lv_has ls 2 [(0, .ref q), (1, .int p0)] := hl
  have hi1 : ∀ w ∈ wsX10, w ∈ wsX1_rowOf := by decide +kernel
  have hl28 : Cond.fieldLink RX1 28 "Scriptorium$Chronicle" "next" "I" ∈ wsX1_rowOf := by decide +kernel
  refine lv_aload_n hx hb dX1_rowOf_0 rfl (lv_at hl 0 rfl) ?_
  refine p_get (ci := 1) (C := RX1) (T := TX1) (N := 6) 4 F rfl hi1 hl28 (by decide) hK hw f_q rfl dX1_rowOf_1 ?_
  refine lv_iconst (v := 1) hx hb dX1_rowOf_4 (by decide) ?_
  refine lv_isub hx hb dX1_rowOf_5 ?_
  refine lv_iload_n hx hb dX1_rowOf_6 rfl (lv_at hl 1 rfl) ?_
  refine lv_isub hx hb dX1_rowOf_7 ?_
  refine lv_bipush (v := 16) hx hb dX1_rowOf_8 (by decide) ?_
  refine (c_J9_floorMod_7cf53 l G Y pw _ _ _ (by decide)).callS F (va_cwS 2 hts gX1_rowOf_J9_floorMod_7cf53 rfl rfl rfl (by decide +kernel) ⟨Nat.le_of_ble_eq_true rfl, Nat.le_of_ble_eq_true rfl⟩) hK hw hA rfl rfl hl.1 (Nat.le_of_ble_eq_true rfl) dX1_rowOf_10 ⟨Nat.le_of_ble_eq_true rfl, Nat.le_of_ble_eq_true rfl⟩ (fun r_10 h_10 H locs hp_10 hw => ?_)
  obtain ⟨eh_10, rfl⟩ := hp_10
  rw [eh_10] at hw
  exact ct_iret hx hb hr (vp_nar_int _) hlocks hK hw dX1_rowOf_13 (Nat.le_of_ble_eq_true rfl) (Nat.le_of_ble_eq_true rfl) ⟨rfl, rfl⟩

set_option maxHeartbeats 4000000 in
set_option maxRecDepth 100000 in
theorem c_X1_add (l : Launch) (G : va_G) (Y : Nat → ClassId) (h : PH) (q a1 a2 a3 a4 : Nat) (xx hh : Nat) (f1 f2 f3 f4 : Nat → Int32) (p9 : Nat) (ps pa pi pb pj pn : Int32) (r9 : Int32) (f_q : pAt h q (oChr a1 a2 a3 a4 (nI xx) (nI hh))) (f_a1 : pAt h a1 (aI Y 16 f1)) (f_a2 : pAt h a2 (aI Y 16 f2)) (f_a3 : pAt h a3 (aI Y 16 f3)) (f_a4 : pAt h a4 (aI Y 16 f4)) (f_p9 : pAt h p9 (oPas ps pa pi pb pj pn)) (hxx : xx < 16) (hhh : hh ≤ 16) (n01 : a1 ≠ a2) (n02 : a1 ≠ a3) (n03 : a1 ≠ a4) (n12 : a2 ≠ a3) (n13 : a2 ≠ a4) (n23 : a3 ≠ a4) : ctV l G Y pw yX1_add wsX1_add ({ frames := 1, cells := 0, slots := 0, locals := 60 }) [.ref q, .ref p9, .int r9] h (fun h' => pFr h h' [a1, a2, a3, a4, q] ∧ pAt h' a1 (aI Y 16 (upd f1 xx ps)) ∧ pAt h' a2 (aI Y 16 (upd f2 xx pa)) ∧ pAt h' a3 (aI Y 16 (upd f3 xx pb)) ∧ pAt h' a4 (aI Y 16 (upd f4 xx r9)) ∧ pAt h' q (oChr a1 a2 a3 a4 (nI ((xx + 1) % 16)) (nI (if hh + 1 < 16 then hh + 1 else 16)))) := by
  refine ctV.of (cc := cX1_add) (maxL := 3) (ret := none) (by decide +kernel) rfl (Nat.le_of_ble_eq_true rfl) ?_
  intro A p e s m below meth c ls hB
  obtain ⟨F, hr, hlocks, hnm, hK, hA, hw, hl⟩ := hB
  obtain ⟨hx, hb, hml, hown, hts⟩ := id F
  have hl : lv_has ls 3 [(0, .ref q), (1, .ref p9), (2, .int r9)] := hl
  have hi1 : ∀ w ∈ wsX10, w ∈ wsX1_add := by decide +kernel
  have hi2 : ∀ w ∈ wsX20, w ∈ wsX1_add := by decide +kernel
  have hl9 : Cond.fieldLink RX1 9 "Scriptorium$Chronicle" "scribeNumbers" "[I" ∈ wsX1_add := by decide +kernel
  have hl15 : Cond.fieldLink RX1 15 "Scriptorium$Chronicle" "sources" "[I" ∈ wsX1_add := by decide +kernel
  have hl18 : Cond.fieldLink RX1 18 "Scriptorium$Chronicle" "targets" "[I" ∈ wsX1_add := by decide +kernel
  have hl21 : Cond.fieldLink RX1 21 "Scriptorium$Chronicle" "answers" "[I" ∈ wsX1_add := by decide +kernel
  have hl24 : Cond.fieldLink RX1 24 "Scriptorium$Chronicle" "held" "I" ∈ wsX1_add := by decide +kernel
  have hl28 : Cond.fieldLink RX1 28 "Scriptorium$Chronicle" "next" "I" ∈ wsX1_add := by decide +kernel
  have hl37 : Cond.fieldLink RX1 37 "Scriptorium$Passage" "scribe" "I" ∈ wsX1_add := by decide +kernel
  have hl42 : Cond.fieldLink RX1 42 "Scriptorium$Passage" "a" "I" ∈ wsX1_add := by decide +kernel
  have hl45 : Cond.fieldLink RX1 45 "Scriptorium$Passage" "b" "I" ∈ wsX1_add := by decide +kernel
  refine lv_aload_n hx hb dX1_add_0 rfl (lv_at hl 0 rfl) ?_
  refine p_get (ci := 1) (C := RX1) (T := TX1) (N := 6) 0 F rfl hi1 hl9 (by decide) hK hw f_q rfl dX1_add_1 ?_
  refine lv_aload_n hx hb dX1_add_4 rfl (lv_at hl 0 rfl) ?_
  refine p_get (ci := 1) (C := RX1) (T := TX1) (N := 6) 4 F rfl hi1 hl28 (by decide) hK hw f_q rfl dX1_add_5 ?_
  refine lv_aload_n hx hb dX1_add_8 rfl (lv_at hl 1 rfl) ?_
  refine p_get (ci := 2) (C := RX2) (T := TX2) (N := 6) 0 F rfl hi2 hl37 (by decide) hK hw f_p9 rfl dX1_add_9 ?_
  have f_a1_0 := f_a1
  refine q_stI F hK hw f_a1 (vp_in_nI hxx (by decide)) dX1_add_12 (fun h_12 H locs f_a1 fr_12 hw => ?_)
  have f_q := fr_12.one f_q (f_q.kinds f_a1_0 (by simp))
  have f_a2 := fr_12.one f_a2 n01.symm
  have f_a3 := fr_12.one f_a3 n02.symm
  have f_a4 := fr_12.one f_a4 n03.symm
  have f_p9 := fr_12.one f_p9 (f_p9.kinds f_a1_0 (by simp))
  refine lv_aload_n hx hb dX1_add_13 rfl (lv_at hl 0 rfl) ?_
  refine p_get (ci := 1) (C := RX1) (T := TX1) (N := 6) 1 F rfl hi1 hl15 (by decide) hK hw f_q rfl dX1_add_14 ?_
  refine lv_aload_n hx hb dX1_add_17 rfl (lv_at hl 0 rfl) ?_
  refine p_get (ci := 1) (C := RX1) (T := TX1) (N := 6) 4 F rfl hi1 hl28 (by decide) hK hw f_q rfl dX1_add_18 ?_
  refine lv_aload_n hx hb dX1_add_21 rfl (lv_at hl 1 rfl) ?_
  refine p_get (ci := 2) (C := RX2) (T := TX2) (N := 6) 1 F rfl hi2 hl42 (by decide) hK hw f_p9 rfl dX1_add_22 ?_
  have f_a2_0 := f_a2
  refine q_stI F hK hw f_a2 (vp_in_nI hxx (by decide)) dX1_add_25 (fun h_25 H locs f_a2 fr_25 hw => ?_)
  have f_q := fr_25.one f_q (f_q.kinds f_a2_0 (by simp))
  have f_a1 := fr_25.one f_a1 n01
  have f_a3 := fr_25.one f_a3 n12.symm
  have f_a4 := fr_25.one f_a4 n13.symm
  have f_p9 := fr_25.one f_p9 (f_p9.kinds f_a2_0 (by simp))
  refine lv_aload_n hx hb dX1_add_26 rfl (lv_at hl 0 rfl) ?_
  refine p_get (ci := 1) (C := RX1) (T := TX1) (N := 6) 2 F rfl hi1 hl18 (by decide) hK hw f_q rfl dX1_add_27 ?_
  refine lv_aload_n hx hb dX1_add_30 rfl (lv_at hl 0 rfl) ?_
  refine p_get (ci := 1) (C := RX1) (T := TX1) (N := 6) 4 F rfl hi1 hl28 (by decide) hK hw f_q rfl dX1_add_31 ?_
  refine lv_aload_n hx hb dX1_add_34 rfl (lv_at hl 1 rfl) ?_
  refine p_get (ci := 2) (C := RX2) (T := TX2) (N := 6) 3 F rfl hi2 hl45 (by decide) hK hw f_p9 rfl dX1_add_35 ?_
  have f_a3_0 := f_a3
  refine q_stI F hK hw f_a3 (vp_in_nI hxx (by decide)) dX1_add_38 (fun h_38 H locs f_a3 fr_38 hw => ?_)
  have f_q := fr_38.one f_q (f_q.kinds f_a3_0 (by simp))
  have f_a1 := fr_38.one f_a1 n02
  have f_a2 := fr_38.one f_a2 n12
  have f_a4 := fr_38.one f_a4 n23.symm
  have f_p9 := fr_38.one f_p9 (f_p9.kinds f_a3_0 (by simp))
  refine lv_aload_n hx hb dX1_add_39 rfl (lv_at hl 0 rfl) ?_
  refine p_get (ci := 1) (C := RX1) (T := TX1) (N := 6) 3 F rfl hi1 hl21 (by decide) hK hw f_q rfl dX1_add_40 ?_
  refine lv_aload_n hx hb dX1_add_43 rfl (lv_at hl 0 rfl) ?_
  refine p_get (ci := 1) (C := RX1) (T := TX1) (N := 6) 4 F rfl hi1 hl28 (by decide) hK hw f_q rfl dX1_add_44 ?_
  refine lv_iload_n hx hb dX1_add_47 rfl (lv_at hl 2 rfl) ?_
  have f_a4_0 := f_a4
  refine q_stI F hK hw f_a4 (vp_in_nI hxx (by decide)) dX1_add_48 (fun h_48 H locs f_a4 fr_48 hw => ?_)
  have f_q := fr_48.one f_q (f_q.kinds f_a4_0 (by simp))
  have f_a1 := fr_48.one f_a1 n03
  have f_a2 := fr_48.one f_a2 n13
  have f_a3 := fr_48.one f_a3 n23
  have f_p9 := fr_48.one f_p9 (f_p9.kinds f_a4_0 (by simp))
  refine lv_aload_n hx hb dX1_add_49 rfl (lv_at hl 0 rfl) ?_
  refine lv_aload_n hx hb dX1_add_50 rfl (lv_at hl 0 rfl) ?_
  refine p_get (ci := 1) (C := RX1) (T := TX1) (N := 6) 4 F rfl hi1 hl28 (by decide) hK hw f_q rfl dX1_add_51 ?_
  refine lv_iconst (v := 1) hx hb dX1_add_54 (by decide) ?_
  refine lv_iadd hx hb dX1_add_55 ?_
  refine lv_bipush (v := 16) hx hb dX1_add_56 (by decide) ?_
  refine lv_irem hx hb dX1_add_58 (by decide) ?_
  rw [next16 hxx]
  have f_q_0 := f_q
  refine q_put (fs' := [_, _, _, _, _, _]) (ci := 1) (C := RX1) (T := TX1) (N := 6) (ty0 := tyX1) (ty := .int) 4 F rfl hi1 tyX1_ok nmX1 hl28 (by decide) rfl (by decide +kernel) rfl rfl (Nat.le_of_ble_eq_true rfl) hK hw f_q rfl dX1_add_59 (fun h_59 H locs f_q fr_59 hw => ?_)
  have f_a1 := fr_59.one f_a1 (f_a1.kinds f_q_0 (by simp))
  have f_a2 := fr_59.one f_a2 (f_a2.kinds f_q_0 (by simp))
  have f_a3 := fr_59.one f_a3 (f_a3.kinds f_q_0 (by simp))
  have f_a4 := fr_59.one f_a4 (f_a4.kinds f_q_0 (by simp))
  have f_p9 := fr_59.one f_p9 (f_p9.kinds f_q_0 (by simp))
  refine lv_aload_n hx hb dX1_add_62 rfl (lv_at hl 0 rfl) ?_
  refine lv_bipush (v := 16) hx hb dX1_add_63 (by decide) ?_
  refine lv_aload_n hx hb dX1_add_65 rfl (lv_at hl 0 rfl) ?_
  refine p_get (ci := 1) (C := RX1) (T := TX1) (N := 6) 5 F rfl hi1 hl24 (by decide) hK hw f_q rfl dX1_add_66 ?_
  refine lv_iconst (v := 1) hx hb dX1_add_69 (by decide) ?_
  refine lv_iadd hx hb dX1_add_70 ?_
  refine va_mmin hx hb (hml.trans hl.1.symm) hown (hts (.methodLink RX1 48 Lib.Math.min.name) (by decide +kernel)) (hts (.static Lib.Math.min.name) (by decide +kernel)) (hts (.initialized "java/lang/Math") (by decide +kernel)) (hts (.code Lib.Math.min.name Lib.Math.min.code 2 (some .int)) (by decide +kernel)) (Nat.le_of_ble_eq_true rfl) (Nat.le_of_ble_eq_true rfl) (Nat.le_of_ble_eq_true rfl) (Nat.le_of_ble_eq_true rfl) dX1_add_71 ?_
  rw [held16 hhh]
  have f_q_0 := f_q
  refine q_put (fs' := [_, _, _, _, _, _]) (ci := 1) (C := RX1) (T := TX1) (N := 6) (ty0 := tyX1) (ty := .int) 5 F rfl hi1 tyX1_ok nmX1 hl24 (by decide) rfl (by decide +kernel) rfl rfl (Nat.le_of_ble_eq_true rfl) hK hw f_q rfl dX1_add_74 (fun h_74 H locs f_q fr_74 hw => ?_)
  have f_a1 := fr_74.one f_a1 (f_a1.kinds f_q_0 (by simp))
  have f_a2 := fr_74.one f_a2 (f_a2.kinds f_q_0 (by simp))
  have f_a3 := fr_74.one f_a3 (f_a3.kinds f_q_0 (by simp))
  have f_a4 := fr_74.one f_a4 (f_a4.kinds f_q_0 (by simp))
  have f_p9 := fr_74.one f_p9 (f_p9.kinds f_q_0 (by simp))
  have ex : cl (nI xx) = xx := cl_nI (by omega)
  rw [ex] at f_a1 f_a2 f_a3 f_a4
  exact ct_vret hx hb hr hlocks hK hw dX1_add_77 (Nat.le_of_ble_eq_true rfl) (Nat.le_of_ble_eq_true rfl) ⟨(fr_12.trans (fr_25.trans (fr_38.trans (fr_48.trans (fr_59.trans fr_74))))).mono (by simp), f_a1, f_a2, f_a3, f_a4, f_q⟩

set_option maxHeartbeats 4000000 in
set_option maxRecDepth 100000 in
theorem c_X3_use (l : Launch) (G : va_G) (Y : Nat → ClassId) (h : PH) (q od : Nat) (ink cop wai : Int32) (p0 : Int32) (f_q : pAt h q (oScr ink cop wai od)) : ctV l G Y pw yX3_use wsX3_use ({ frames := 0, cells := 0, slots := 0, locals := 0 }) [.ref q, .int p0] h (fun h' => pFr h h' [q] ∧ pAt h' q (oScr (ink - p0) (cop + p0) wai od)) := by
  refine ctV.of (cc := cX3_use) (maxL := 2) (ret := none) (by decide +kernel) rfl (Nat.le_of_ble_eq_true rfl) ?_
  intro A p e s m below meth c ls hB
  obtain ⟨F, hr, hlocks, hnm, hK, hA, hw, hl⟩ := hB
  obtain ⟨hx, hb, hml, hown, hts⟩ := id F
  have hl : lv_has ls 2 [(0, .ref q), (1, .int p0)] := hl
  have hi3 : ∀ w ∈ wsX30, w ∈ wsX3_use := by decide +kernel
  have hl9 : Cond.fieldLink RX3 9 "Scriptorium$Scribe" "ink" "I" ∈ wsX3_use := by decide +kernel
  have hl21 : Cond.fieldLink RX3 21 "Scriptorium$Scribe" "copied" "I" ∈ wsX3_use := by decide +kernel
  refine lv_aload_n hx hb dX3_use_0 rfl (lv_at hl 0 rfl) ?_
  refine lv_dup hx hb dX3_use_1 rfl ?_
  refine p_get (ci := 3) (C := RX3) (T := TX3) (N := 4) 0 F rfl hi3 hl9 (by decide) hK hw f_q rfl dX3_use_2 ?_
  refine lv_iload_n hx hb dX3_use_5 rfl (lv_at hl 1 rfl) ?_
  refine lv_isub hx hb dX3_use_6 ?_
  have f_q_0 := f_q
  refine q_put (fs' := [_, _, _, _]) (ci := 3) (C := RX3) (T := TX3) (N := 4) (ty0 := tyX3) (ty := .int) 0 F rfl hi3 tyX3_ok nmX3 hl9 (by decide) rfl (by decide +kernel) rfl rfl (Nat.le_of_ble_eq_true rfl) hK hw f_q rfl dX3_use_7 (fun h_7 H locs f_q fr_7 hw => ?_)
  refine lv_aload_n hx hb dX3_use_10 rfl (lv_at hl 0 rfl) ?_
  refine lv_dup hx hb dX3_use_11 rfl ?_
  refine p_get (ci := 3) (C := RX3) (T := TX3) (N := 4) 1 F rfl hi3 hl21 (by decide) hK hw f_q rfl dX3_use_12 ?_
  refine lv_iload_n hx hb dX3_use_15 rfl (lv_at hl 1 rfl) ?_
  refine lv_iadd hx hb dX3_use_16 ?_
  have f_q_0 := f_q
  refine q_put (fs' := [_, _, _, _]) (ci := 3) (C := RX3) (T := TX3) (N := 4) (ty0 := tyX3) (ty := .int) 1 F rfl hi3 tyX3_ok nmX3 hl21 (by decide) rfl (by decide +kernel) rfl rfl (Nat.le_of_ble_eq_true rfl) hK hw f_q rfl dX3_use_17 (fun h_17 H locs f_q fr_17 hw => ?_)
  exact ct_vret hx hb hr hlocks hK hw dX3_use_20 (Nat.le_of_ble_eq_true rfl) (Nat.le_of_ble_eq_true rfl) ⟨(fr_7.trans fr_17).mono (by simp), f_q⟩

set_option maxHeartbeats 4000000 in
set_option maxRecDepth 100000 in
theorem c_X3_addOrder (l : Launch) (G : va_G) (Y : Nat → ClassId) (h : PH) (q od : Nat) (ink cop : Int32) (w : Nat) (f : Nat → Option Nat) (p9 : Nat) (fs : List Value) (f_q : pAt h q (oScr ink cop (nI w) od)) (f_od : pAt h od (aP Y 8 f)) (f_p9 : pAt h p9 (.inr (2, fs))) (hw8 : w ≤ 8) (n9 : p9 ≠ q) : ctI l G Y pw yX3_addOrder wsX3_addOrder ({ frames := 0, cells := 0, slots := 0, locals := 0 }) [.ref q, .ref p9] h (fun r h' => (w = 8 ∧ r = -99 ∧ h' = h) ∨ (w < 8 ∧ r = nI (w + 1) ∧ pFr h h' [od, q] ∧ pAt h' od (aP Y 8 (va_up f w (some p9))) ∧ pAt h' q (oScr ink cop (nI (w + 1)) od))) := by
  refine ctI.of (cc := cX3_addOrder) (maxL := 2) (ret := (some .int)) (by decide +kernel) rfl (Nat.le_of_ble_eq_true rfl) ?_
  intro A p e s m below meth c ls hB
  obtain ⟨F, hr, hlocks, hnm, hK, hA, hw, hl⟩ := hB
  obtain ⟨hx, hb, hml, hown, hts⟩ := id F
  have hl : lv_has ls 2 [(0, .ref q), (1, .ref p9)] := hl
  have hi3 : ∀ w ∈ wsX30, w ∈ wsX3_addOrder := by decide +kernel
  have hl17 : Cond.fieldLink RX3 17 "Scriptorium$Scribe" "orders" "[LScriptorium$Passage;" ∈ wsX3_addOrder := by decide +kernel
  have hl24 : Cond.fieldLink RX3 24 "Scriptorium$Scribe" "waiting" "I" ∈ wsX3_addOrder := by decide +kernel
  refine lv_aload_n hx hb dX3_addOrder_0 rfl (lv_at hl 0 rfl) ?_
  refine p_get (ci := 3) (C := RX3) (T := TX3) (N := 4) 2 F rfl hi3 hl24 (by decide) hK hw f_q rfl dX3_addOrder_1 ?_
  refine lv_bipush (v := 8) hx hb dX3_addOrder_4 (by decide) ?_
  refine lv_icmp_lt (tgt := 12) hx hb dX3_addOrder_6 (by decide) (fun c_6 => ?_) (fun c_6 => ?_)
  · skip
    have hw9 : w < 8 := (nI_ltI (by omega) (by decide)).mp c_6
    refine lv_aload_n hx hb dX3_addOrder_12 rfl (lv_at hl 0 rfl) ?_
    refine p_get (ci := 3) (C := RX3) (T := TX3) (N := 4) 3 F rfl hi3 hl17 (by decide) hK hw f_q rfl dX3_addOrder_13 ?_
    refine lv_aload_n hx hb dX3_addOrder_16 rfl (lv_at hl 0 rfl) ?_
    refine p_get (ci := 3) (C := RX3) (T := TX3) (N := 4) 2 F rfl hi3 hl24 (by decide) hK hw f_q rfl dX3_addOrder_17 ?_
    refine lv_aload_n hx hb dX3_addOrder_20 rfl (lv_at hl 1 rfl) ?_
    have f_od_0 := f_od
    refine q_stP F hK hw f_od f_p9 (vp_in_nI hw9 (by decide)) dX3_addOrder_21 (fun h_21 H locs f_od fr_21 hw => ?_)
    have f_q := fr_21.one f_q (f_q.kinds f_od_0 (by simp))
    have f_p9 := fr_21.one f_p9 (f_p9.kinds f_od_0 (by simp))
    refine lv_aload_n hx hb dX3_addOrder_22 rfl (lv_at hl 0 rfl) ?_
    refine lv_dup hx hb dX3_addOrder_23 rfl ?_
    refine p_get (ci := 3) (C := RX3) (T := TX3) (N := 4) 2 F rfl hi3 hl24 (by decide) hK hw f_q rfl dX3_addOrder_24 ?_
    refine lv_iconst (v := 1) hx hb dX3_addOrder_27 (by decide) ?_
    refine lv_iadd hx hb dX3_addOrder_28 ?_
    rw [nI_1]
    have f_q_0 := f_q
    refine q_put (fs' := [_, _, _, _]) (ci := 3) (C := RX3) (T := TX3) (N := 4) (ty0 := tyX3) (ty := .int) 2 F rfl hi3 tyX3_ok nmX3 hl24 (by decide) rfl (by decide +kernel) rfl rfl (Nat.le_of_ble_eq_true rfl) hK hw f_q rfl dX3_addOrder_29 (fun h_29 H locs f_q fr_29 hw => ?_)
    have f_od := fr_29.one f_od (f_od.kinds f_q_0 (by simp))
    have f_p9 := fr_29.one f_p9 n9
    refine lv_aload_n hx hb dX3_addOrder_32 rfl (lv_at hl 0 rfl) ?_
    refine p_get (ci := 3) (C := RX3) (T := TX3) (N := 4) 2 F rfl hi3 hl24 (by decide) hK hw f_q rfl dX3_addOrder_33 ?_
    rw [cl_nI (show w < 2 ^ 31 by omega)] at f_od
    exact ct_iret hx hb hr (vp_nar_int _) hlocks hK hw dX3_addOrder_36 (Nat.le_of_ble_eq_true rfl) (Nat.le_of_ble_eq_true rfl) (Or.inr ⟨hw9, rfl, fr_21.trans fr_29, f_od, f_q⟩)
  · skip
    have hw9 : w = 8 := by
      have q : ¬ w < 8 := fun q => c_6 ((nI_ltI (b := 8) (by omega) (by decide)).mpr q)
      omega
    refine lv_bipush (v := -99) hx hb dX3_addOrder_9 (by decide) ?_
    exact ct_iret hx hb hr (vp_nar_int _) hlocks hK hw dX3_addOrder_11 (Nat.le_of_ble_eq_true rfl) (Nat.le_of_ble_eq_true rfl) (Or.inl ⟨hw9, rfl, rfl⟩)

set_option maxHeartbeats 4000000 in
set_option maxRecDepth 100000 in
theorem c_X3_firstOrder (l : Launch) (G : va_G) (Y : Nat → ClassId) (h : PH) (q od : Nat) (ink cop : Int32) (w : Nat) (f : Nat → Option Nat) (f_q : pAt h q (oScr ink cop (nI w) od)) (f_od : pAt h od (aP Y 8 f)) (hw8 : w ≤ 8) : ctQ l G Y pw yX3_firstOrder wsX3_firstOrder ({ frames := 0, cells := 0, slots := 0, locals := 0 }) [.ref q] h (fun r h' => h' = h ∧ ((w = 0 ∧ r = none) ∨ (0 < w ∧ r = f 0))) := by
  refine ctQ.of (cc := cX3_firstOrder) (maxL := 1) (ret := (some (.object "Scriptorium$Passage"))) (by decide +kernel) rfl (Nat.le_of_ble_eq_true rfl) ?_
  intro A p e s m below meth c ls hB
  obtain ⟨F, hr, hlocks, hnm, hK, hA, hw, hl⟩ := hB
  obtain ⟨hx, hb, hml, hown, hts⟩ := id F
  have hl : lv_has ls 1 [(0, .ref q)] := hl
  have hi3 : ∀ w ∈ wsX30, w ∈ wsX3_firstOrder := by decide +kernel
  have hl17 : Cond.fieldLink RX3 17 "Scriptorium$Scribe" "orders" "[LScriptorium$Passage;" ∈ wsX3_firstOrder := by decide +kernel
  have hl24 : Cond.fieldLink RX3 24 "Scriptorium$Scribe" "waiting" "I" ∈ wsX3_firstOrder := by decide +kernel
  refine lv_aload_n hx hb dX3_firstOrder_0 rfl (lv_at hl 0 rfl) ?_
  refine p_get (ci := 3) (C := RX3) (T := TX3) (N := 4) 2 F rfl hi3 hl24 (by decide) hK hw f_q rfl dX3_firstOrder_1 ?_
  refine lv_if_le (tgt := 16) hx hb dX3_firstOrder_4 (by decide) (fun c_4 => ?_) (fun c_4 => ?_)
  · skip
    refine lv_null hx hb dX3_firstOrder_16 ?_
    exact ct_qret (v := none) hx hb hr (Or.inl ⟨_, rfl⟩) hlocks hK hw dX3_firstOrder_17 (Nat.le_of_ble_eq_true rfl) (Nat.le_of_ble_eq_true rfl) ⟨rfl, Or.inl ⟨by have := (nI_leI (b := 0) (by omega) (by decide)).mp c_4; omega, rfl⟩⟩
  · skip
    refine lv_aload_n hx hb dX3_firstOrder_7 rfl (lv_at hl 0 rfl) ?_
    refine p_get (ci := 3) (C := RX3) (T := TX3) (N := 4) 3 F rfl hi3 hl17 (by decide) hK hw f_q rfl dX3_firstOrder_8 ?_
    refine lv_iconst (v := 0) hx hb dX3_firstOrder_11 (by decide) ?_
    refine p_ldP F hK hw f_od (vp_in_nI (n := 0) (by decide) (by decide)) dX3_firstOrder_12 ?_
    refine lv_goto (tgt := 17) hx hb dX3_firstOrder_13 (by decide) ?_
    exact ct_qret hx hb hr (Or.inl ⟨_, rfl⟩) hlocks hK hw dX3_firstOrder_17 (Nat.le_of_ble_eq_true rfl) (Nat.le_of_ble_eq_true rfl) ⟨rfl, Or.inr ⟨by
      rcases Nat.eq_zero_or_pos w with q | q
      · exact absurd (by rw [q]; decide) c_4
      · exact q, rfl⟩⟩

set_option maxHeartbeats 4000000 in
set_option maxRecDepth 100000 in
theorem c_X3_dropFirstOrder (l : Launch) (G : va_G) (Y : Nat → ClassId) (h : PH) (q od : Nat) (ink cop : Int32) (w : Nat) (f : Nat → Option Nat) (f_q : pAt h q (oScr ink cop (nI w) od)) (f_od : pAt h od (aP Y 8 f)) (hw8 : w ≤ 8) (hw1 : 0 < w) (hps : ∀ k, k < w → ∃ (p9 : Nat) (fs : List Value), f k = some p9 ∧ pAt h p9 (.inr (2, fs))) : ctV l G Y pw yX3_dropFirstOrder wsX3_dropFirstOrder ({ frames := 0, cells := 0, slots := 0, locals := 0 }) [.ref q] h (fun h' => pFr h h' [od, q] ∧ pAt h' q (oScr ink cop (nI (w - 1)) od) ∧ ∃ f', pAt h' od (aP Y 8 f') ∧ ∀ k, k + 1 < w → f' k = f (k + 1)) := by
  refine ctV.of (cc := cX3_dropFirstOrder) (maxL := 2) (ret := none) (by decide +kernel) rfl (Nat.le_of_ble_eq_true rfl) ?_
  intro A p e s m below meth c ls hB
  obtain ⟨F, hr, hlocks, hnm, hK, hA, hw, hl⟩ := hB
  obtain ⟨hx, hb, hml, hown, hts⟩ := id F
  have hl : lv_has ls 2 [(0, .ref q)] := hl
  have hi3 : ∀ w ∈ wsX30, w ∈ wsX3_dropFirstOrder := by decide +kernel
  have hl17 : Cond.fieldLink RX3 17 "Scriptorium$Scribe" "orders" "[LScriptorium$Passage;" ∈ wsX3_dropFirstOrder := by decide +kernel
  have hl24 : Cond.fieldLink RX3 24 "Scriptorium$Scribe" "waiting" "I" ∈ wsX3_dropFirstOrder := by decide +kernel
  have f_od0 := f_od
  refine lv_iconst (v := 1) hx hb dX3_dropFirstOrder_0 (by decide) ?_
  refine lv_istore_n (lv' := [(1, .int _), (0, .ref _)]) hx hb dX3_dropFirstOrder_1 rfl hl (by decide) rfl (fun ls hl => ?_)
  refine W_loop (σ := Nat × PH × (Nat → Option Nat)) 2 (fun n (q9 : Nat × PH × (Nat → Option Nat)) H locs ls => n = w - q9.1 ∧ 1 ≤ q9.1 ∧ q9.1 ≤ w ∧ pFr h q9.2.1 [od] ∧ pAt q9.2.1 q (oScr ink cop (nI w) od) ∧ pAt q9.2.1 od (aP Y 8 q9.2.2) ∧ (∀ j, j + 1 < q9.1 → q9.2.2 j = f (j + 1)) ∧ (∀ j, q9.1 ≤ j + 1 → q9.2.2 j = f j) ∧ wW G A s.heap (pw q9.2.1) H locs ∧ lv_has ls 2 [(1, .int (nI q9.1)), (0, .ref q)]) ?_ (n := w - 1) (x := (1, h, f)) ⟨rfl, Nat.le_refl _, hw1, pFr.rf, f_q, f_od, fun j hj => absurd hj (by omega), fun _ _ => rfl, hw, hl⟩
  intro n q9 H locs ls hI ih
  obtain ⟨t, h1, f1⟩ := q9
  obtain ⟨hn, h1t, ht, fr1, f_q, f_od, hlt, hge, hw, hl⟩ := hI
  dsimp only at hn h1t ht fr1 f_q f_od hlt hge hw hl
  refine lv_iload_n hx hb dX3_dropFirstOrder_2 rfl (lv_at hl 0 rfl) ?_
  refine lv_aload_n hx hb dX3_dropFirstOrder_3 rfl (lv_at hl 1 rfl) ?_
  refine p_get (ci := 3) (C := RX3) (T := TX3) (N := 4) 2 F rfl hi3 hl24 (by decide) hK hw f_q rfl dX3_dropFirstOrder_4 ?_
  refine lv_icmp_ge (tgt := 30) hx hb dX3_dropFirstOrder_7 (by decide) (fun c_7 => ?_) (fun c_7 => ?_)
  · skip
    have htn : t = w := by
      have := le_of_c (by omega) (by omega) c_7
      omega
    subst htn
    refine lv_aload_n hx hb dX3_dropFirstOrder_30 rfl (lv_at hl 1 rfl) ?_
    refine p_get (ci := 3) (C := RX3) (T := TX3) (N := 4) 2 F rfl hi3 hl24 (by decide) hK hw f_q rfl dX3_dropFirstOrder_31 ?_
    refine lv_if_le (tgt := 57) hx hb dX3_dropFirstOrder_34 (by decide) (fun c_34 => ?_) (fun c_34 => ?_)
    · exact absurd ((nI_leI (b := 0) (by omega) (by decide)).mp c_34) (by omega)
    · skip
      refine lv_aload_n hx hb dX3_dropFirstOrder_37 rfl (lv_at hl 1 rfl) ?_
      refine lv_dup hx hb dX3_dropFirstOrder_38 rfl ?_
      refine p_get (ci := 3) (C := RX3) (T := TX3) (N := 4) 2 F rfl hi3 hl24 (by decide) hK hw f_q rfl dX3_dropFirstOrder_39 ?_
      refine lv_iconst (v := 1) hx hb dX3_dropFirstOrder_42 (by decide) ?_
      refine lv_isub hx hb dX3_dropFirstOrder_43 ?_
      rw [show (1 : Int32) = nI 1 from rfl, pk_sub (show 1 ≤ t by omega)]
      have f_q_0 := f_q
      refine q_put (fs' := [_, _, _, _]) (ci := 3) (C := RX3) (T := TX3) (N := 4) (ty0 := tyX3) (ty := .int) 2 F rfl hi3 tyX3_ok nmX3 hl24 (by decide) rfl (by decide +kernel) rfl rfl (Nat.le_of_ble_eq_true rfl) hK hw f_q rfl dX3_dropFirstOrder_44 (fun h_44 H locs f_q fr_44 hw => ?_)
      have f_od := fr_44.one f_od (f_od.kinds f_q_0 (by simp))
      refine lv_aload_n hx hb dX3_dropFirstOrder_47 rfl (lv_at hl 1 rfl) ?_
      refine p_get (ci := 3) (C := RX3) (T := TX3) (N := 4) 3 F rfl hi3 hl17 (by decide) hK hw f_q rfl dX3_dropFirstOrder_48 ?_
      refine lv_aload_n hx hb dX3_dropFirstOrder_51 rfl (lv_at hl 1 rfl) ?_
      refine p_get (ci := 3) (C := RX3) (T := TX3) (N := 4) 2 F rfl hi3 hl24 (by decide) hK hw f_q rfl dX3_dropFirstOrder_52 ?_
      refine lv_null hx hb dX3_dropFirstOrder_55 ?_
      have f_od_0 := f_od
      refine q_stPN F hK hw f_od (vp_in_nI (show t - 1 < 8 by omega) (by decide)) dX3_dropFirstOrder_56 (fun h_56 H locs f_od fr_56 hw => ?_)
      have f_q := fr_56.one f_q (f_q.kinds f_od_0 (by simp))
      exact ct_vret hx hb hr hlocks hK hw dX3_dropFirstOrder_57 (Nat.le_of_ble_eq_true rfl) (Nat.le_of_ble_eq_true rfl) ⟨(fr1.trans (fr_44.trans fr_56)).mono (by simp), f_q, _, f_od, fun k hk => by
        show va_up f1 (cl (nI (t - 1))) none k = f (k + 1)
        rw [cl_nI (by omega), va_up_ne _ _ (by omega)]; exact hlt k hk⟩
  · skip
    have htn : t < w := lt_of_c (by omega) (by omega) c_7
    obtain ⟨p9, fs9, ep9, hp9⟩ := hps t htn
    have f_p9 : pAt h1 p9 (.inr (2, fs9)) := fr1.one hp9 (fun q => absurd (hp9.kinds f_od0 (by simp)) (fun z => z q))
    refine lv_aload_n hx hb dX3_dropFirstOrder_10 rfl (lv_at hl 1 rfl) ?_
    refine p_get (ci := 3) (C := RX3) (T := TX3) (N := 4) 3 F rfl hi3 hl17 (by decide) hK hw f_q rfl dX3_dropFirstOrder_11 ?_
    refine lv_iload_n hx hb dX3_dropFirstOrder_14 rfl (lv_at hl 0 rfl) ?_
    refine lv_iconst (v := 1) hx hb dX3_dropFirstOrder_15 (by decide) ?_
    refine lv_isub hx hb dX3_dropFirstOrder_16 ?_
    rw [show (1 : Int32) = nI 1 from rfl, pk_sub h1t]
    refine lv_aload_n hx hb dX3_dropFirstOrder_17 rfl (lv_at hl 1 rfl) ?_
    refine p_get (ci := 3) (C := RX3) (T := TX3) (N := 4) 3 F rfl hi3 hl17 (by decide) hK hw f_q rfl dX3_dropFirstOrder_18 ?_
    refine lv_iload_n hx hb dX3_dropFirstOrder_21 rfl (lv_at hl 0 rfl) ?_
    refine p_ldP F hK hw f_od (vp_in_nI (show t < 8 by omega) (by decide)) dX3_dropFirstOrder_22 ?_
    rw [cl_nI (show t < 2 ^ 31 by omega), hge t (by omega), ep9]
    have f_od_0 := f_od
    refine q_stP F hK hw f_od f_p9 (vp_in_nI (show t - 1 < 8 by omega) (by decide)) dX3_dropFirstOrder_23 (fun h_23 H locs f_od fr_23 hw => ?_)
    have f_q := fr_23.one f_q (f_q.kinds f_od_0 (by simp))
    have f_p9 := fr_23.one f_p9 (f_p9.kinds f_od_0 (by simp))
    refine lv_iinc (lv' := [(1, .int _), (0, .ref _)]) hx hb dX3_dropFirstOrder_24 hl (k := 0) rfl rfl (by decide) rfl (fun ls hl => ?_)
    refine lv_goto (tgt := 2) hx hb dX3_dropFirstOrder_27 (by decide) ?_
    refine ih _ (t + 1, h_23, _) _ _ _ (by omega) ⟨rfl, by omega, by omega, (fr1.trans fr_23).mono (by simp), f_q, f_od, fun j hj => ?_, fun j hj => ?_, hw, by rw [nI_succ]; exact hl⟩
    · show va_up f1 (cl (nI (t - 1))) (some p9) j = f (j + 1)
      rw [cl_nI (by omega)]
      by_cases e9 : j = t - 1
      · rw [e9, va_up_self, show t - 1 + 1 = t by omega, ep9]
      · rw [va_up_ne _ _ e9]; exact hlt j (by omega)
    · show va_up f1 (cl (nI (t - 1))) (some p9) j = f j
      have hj : t + 1 ≤ j + 1 := hj
      rw [cl_nI (by omega), va_up_ne _ _ (by omega)]; exact hge j (by omega)
end
section
/-! the class's state, and how the heap holds it -/
abbrev Ord : Type := Int32 × Int32 × Int32 × Int32 × Int32
abbrev BSt : Type := List Nat × (Nat → Int32) × (Nat → Nat) × (Nat → Nat → Int64) × (Nat → Nat → Int32) × (Nat → Nat) × (Nat → Nat)
abbrev SSt : Type := (Nat → Int32) × (Nat → Int32) × (Nat → Nat) × (Nat → Nat → Ord)
abbrev HSt : Type := Nat × Nat × (Nat → Nat → Int32)
abbrev CSt : Type := (Nat → Nat) × BSt × SSt × HSt × (Nat → Int32)
def xR (h : PH) (ad : Nat → Nat) : Prop := pAt h (ad 0) (oX (ad 1) (ad 2) (ad 3) (ad 4) (ad 5) (ad 6))
def dR (Y : Nat → ClassId) (h : PH) (ad dk : Nat → Nat) (BK : List Nat) : Prop := ∃ f, pAt h (ad 3) (aB Y 6 f) ∧ ∀ i, i < 6 → f i = some (dk i) ∧ dk i ∈ BK
def bR (Y : Nat → ClassId) (h : PH) (BK : List Nat) (bS : Nat → Int32) (bN : Nat → Nat) (bV : Nat → Nat → Int64) (bT : Nat → Nat → Int32) (vA sA : Nat → Nat) : Prop :=
  ∀ b, b ∈ BK → pAt h b (oBook (bS b) (vA b) (sA b)) ∧ pAt h (vA b) (aJ Y (bN b) (bV b)) ∧ pAt h (sA b) (aI Y (bN b) (bT b)) ∧ bN b ≤ 40
def nR (ad : Nat → Nat) (BK : List Nat) (vA sA : Nat → Nat) : Prop :=
  (∀ b, b ∈ BK → ∀ c, c ∈ BK → vA b = vA c → b = c) ∧ (∀ b, b ∈ BK → ∀ c, c ∈ BK → sA b = sA c → b = c) ∧ (∀ b, b ∈ BK → sA b ≠ ad 6 ∧ ∀ k, k < 4 → sA b ≠ ad (13 + k)) ∧
  (∀ k, k < 4 → ad (13 + k) ≠ ad 6) ∧ (∀ i j, i < 4 → j < 4 → ad (13 + i) = ad (13 + j) → i = j) ∧ (∀ i j, i < 3 → j < 3 → ad (7 + i) = ad (7 + j) → i = j) ∧ (∀ i j, i < 3 → j < 3 → ad (10 + i) = ad (10 + j) → i = j) ∧ ad 1 ∈ BK ∧ ad 2 ∈ BK
def oPa (i : Nat) (o : Ord) : va_E := oPas (nI i) o.1 o.2.1 o.2.2.1 o.2.2.2.1 o.2.2.2.2
def sR1 (Y : Nat → ClassId) (h : PH) (ad : Nat → Nat) (ink cop : Nat → Int32) (wai : Nat → Nat) (O : Nat → Nat → Ord) (i : Nat) : Prop :=
  pAt h (ad (7 + i)) (oScr (ink i) (cop i) (nI (wai i)) (ad (10 + i))) ∧ wai i ≤ 8 ∧ ∃ f, pAt h (ad (10 + i)) (aP Y 8 f) ∧ ∀ k, k < wai i → ∃ q, f k = some q ∧ pAt h q (oPa i (O i k))
def sR (Y : Nat → ClassId) (h : PH) (ad : Nat → Nat) (ink cop : Nat → Int32) (wai : Nat → Nat) (O : Nat → Nat → Ord) : Prop :=
  (∃ f, pAt h (ad 4) (aS Y 3 f) ∧ ∀ i, i < 3 → f i = some (ad (7 + i))) ∧ ∀ i, i < 3 → sR1 Y h ad ink cop wai O i
def hR (Y : Nat → ClassId) (h : PH) (ad : Nat → Nat) (nx he : Nat) (C : Nat → Nat → Int32) : Prop :=
  pAt h (ad 5) (oChr (ad 13) (ad 14) (ad 15) (ad 16) (nI nx) (nI he)) ∧ (∀ k, k < 4 → pAt h (ad (13 + k)) (aI Y 16 (C k))) ∧ nx < 16 ∧ he ≤ 16
def tR (Y : Nat → ClassId) (h : PH) (ad : Nat → Nat) (tl : Nat → Int32) : Prop := pAt h (ad 6) (aI Y 8 tl)
def CRep (Y : Nat → ClassId) (h : PH) (ad : Nat → Nat) : CSt → Prop
  | (dk, (BK, bS, bN, bV, bT, vA, sA), (ink, cop, wai, O), (nx, he, C), tl) => xR h ad ∧ dR Y h ad dk BK ∧ bR Y h BK bS bN bV bT vA sA ∧ nR ad BK vA sA ∧ sR Y h ad ink cop wai O ∧ hR Y h ad nx he C ∧ tR Y h ad tl
section CRP
variable {Y : Nat → ClassId} {h h' : PH} {L : List Nat} {ad dk : Nat → Nat} {BK : List Nat} {bS : Nat → Int32} {bN : Nat → Nat} {bV : Nat → Nat → Int64} {bT : Nat → Nat → Int32} {vA sA : Nat → Nat} {ink cop : Nat → Int32} {wai : Nat → Nat} {O : Nat → Nat → Ord} {nx he : Nat} {C : Nat → Nat → Int32} {tl : Nat → Int32}
theorem xR.fr (H : xR h ad) (f : pFr h h' L) (n : ad 0 ∉ L) : xR h' ad := f _ _ n H
theorem dR.fr (H : dR Y h ad dk BK) (f : pFr h h' L) (n : ad 3 ∉ L) : dR Y h' ad dk BK := by
  obtain ⟨g, h1, h2⟩ := H
  exact ⟨g, f _ _ n h1, h2⟩
theorem bR.fr (H : bR Y h BK bS bN bV bT vA sA) (f : pFr h h' L) (n : ∀ b, b ∈ BK → b ∉ L ∧ vA b ∉ L ∧ sA b ∉ L) : bR Y h' BK bS bN bV bT vA sA := fun b hb =>
  ⟨f _ _ (n b hb).1 (H b hb).1, f _ _ (n b hb).2.1 (H b hb).2.1, f _ _ (n b hb).2.2 (H b hb).2.2.1, (H b hb).2.2.2⟩
theorem sR1.fr {i : Nat} (H : sR1 Y h ad ink cop wai O i) (f : pFr h h' L) (n1 : ad (7 + i) ∉ L) (n2 : ad (10 + i) ∉ L) (n3 : ∀ q e, pAt h q (.inr (2, e)) → q ∉ L) : sR1 Y h' ad ink cop wai O i := by
  obtain ⟨h1, h2, g, h3, h4⟩ := H
  refine ⟨f _ _ n1 h1, h2, g, f _ _ n2 h3, fun k hk => ?_⟩
  obtain ⟨q, e1, e2⟩ := h4 k hk
  exact ⟨q, e1, f _ _ (n3 q _ e2) e2⟩
theorem sR.fr (H : sR Y h ad ink cop wai O) (f : pFr h h' L) (n0 : ad 4 ∉ L) (n1 : ∀ i, i < 3 → ad (7 + i) ∉ L) (n2 : ∀ i, i < 3 → ad (10 + i) ∉ L) (n3 : ∀ q e, pAt h q (.inr (2, e)) → q ∉ L) : sR Y h' ad ink cop wai O := by
  obtain ⟨⟨g, h1, h2⟩, h3⟩ := H
  exact ⟨⟨g, f _ _ n0 h1, h2⟩, fun i hi => (h3 i hi).fr f (n1 i hi) (n2 i hi) n3⟩
theorem hR.fr (H : hR Y h ad nx he C) (f : pFr h h' L) (n0 : ad 5 ∉ L) (n1 : ∀ k, k < 4 → ad (13 + k) ∉ L) : hR Y h' ad nx he C := ⟨f _ _ n0 H.1, fun k hk => f _ _ (n1 k hk) (H.2.1 k hk), H.2.2⟩
theorem tR.fr (H : tR Y h ad tl) (f : pFr h h' L) (n : ad 6 ∉ L) : tR Y h' ad tl := f _ _ n H
theorem nin1 {a b : Nat} (h : a ≠ b) : a ∉ [b] := by simpa using h
theorem nin2 {a b c : Nat} (h : a ≠ b) (h2 : a ≠ c) : a ∉ [b, c] := by simp [h, h2]
theorem nin5 {a b c d e f : Nat} (h1 : a ≠ b) (h2 : a ≠ c) (h3 : a ≠ d) (h4 : a ≠ e) (h5 : a ≠ f) : a ∉ [b, c, d, e, f] := by simp [h1, h2, h3, h4, h5]
/-- the heap has grown only -/
theorem CRep.grow {cs : CSt} (H : CRep Y h ad cs) (f : pFr h h' []) : CRep Y h' ad cs := by
  obtain ⟨dk, ⟨BK, bS, bN, bV, bT, vA, sA⟩, ⟨ink, cop, wai, O⟩, ⟨nx, he, C⟩, tl⟩ := cs
  obtain ⟨hx, hd, hb, hn, hs, hh, ht⟩ := H
  have n0 : ∀ a : Nat, a ∉ ([] : List Nat) := fun a => by simp
  exact ⟨hx.fr f (n0 _), hd.fr f (n0 _), hb.fr f (fun b _ => ⟨n0 _, n0 _, n0 _⟩), hn, hs.fr f (n0 _) (fun _ _ => n0 _) (fun _ _ => n0 _) (fun _ _ _ => n0 _), hh.fr f (n0 _) (fun _ _ => n0 _), ht.fr f (n0 _)⟩
/-- a book's signs have changed -/
theorem CRep.book (H : CRep Y h ad (dk, (BK, bS, bN, bV, bT, vA, sA), (ink, cop, wai, O), (nx, he, C), tl)) {b : Nat} (hb9 : b ∈ BK) {V : Nat → Int64} {T : Nat → Int32} (f : pFr h h' [vA b, sA b]) (hv : pAt h' (vA b) (aJ Y (bN b) V)) (hs9 : pAt h' (sA b) (aI Y (bN b) T)) :
    CRep Y h' ad (dk, (BK, bS, bN, va_up bV b V, va_up bT b T, vA, sA), (ink, cop, wai, O), (nx, he, C), tl) := by
  obtain ⟨hx, hd, hb, hn, hs, hh, ht⟩ := H
  have fv := (hb b hb9).2.1
  have fs := (hb b hb9).2.2.1
  obtain ⟨g, hg, -⟩ := id hd
  obtain ⟨⟨g4, hg4, -⟩, hs3⟩ := id hs
  refine ⟨hx.fr f (nin2 (hx.kinds fv (by simp)) (hx.kinds fs (by simp))), hd.fr f (nin2 (hg.kinds fv (by simp)) (hg.kinds fs (by simp))), fun c hc => ?_, hn, hs.fr f (nin2 (hg4.kinds fv (by simp)) (hg4.kinds fs (by simp))) (fun i hi => nin2 ((hs3 i hi).1.kinds fv (by simp)) ((hs3 i hi).1.kinds fs (by simp))) (fun i hi => ?_) (fun q e hq => nin2 (hq.kinds fv (by simp)) (hq.kinds fs (by simp))), hh.fr f (nin2 (hh.1.kinds fv (by simp)) (hh.1.kinds fs (by simp))) (fun k hk => nin2 ((hh.2.1 k hk).kinds fv (by simp)) ((hn.2.2.1 b hb9).2 k hk).symm), ht.fr f (nin2 (pAt.kinds ht fv (by simp)) (hn.2.2.1 b hb9).1.symm)⟩
  · have hc9 := hb c hc
    by_cases e : c = b
    · subst e
      rw [va_up_self, va_up_self]
      exact ⟨f _ _ (nin2 (hc9.1.kinds fv (by simp)) (hc9.1.kinds fs (by simp))) hc9.1, hv, hs9, hc9.2.2.2⟩
    · rw [va_up_ne _ _ e, va_up_ne _ _ e]
      exact ⟨f _ _ (nin2 (hc9.1.kinds fv (by simp)) (hc9.1.kinds fs (by simp))) hc9.1, f _ _ (nin2 (fun q => e (hn.1 c hc b hb9 q)) (hc9.2.1.kinds fs (by simp))) hc9.2.1, f _ _ (nin2 (hc9.2.2.1.kinds fv (by simp)) (fun q => e (hn.2.1 c hc b hb9 q))) hc9.2.2.1, hc9.2.2.2⟩
  · obtain ⟨-, -, g9, hg9, -⟩ := hs3 i hi
    exact nin2 (hg9.kinds fv (by simp)) (hg9.kinds fs (by simp))
/-- another thing lies on a desk -/
theorem CRep.desk (H : CRep Y h ad (dk, (BK, bS, bN, bV, bT, vA, sA), (ink, cop, wai, O), (nx, he, C), tl)) {b i : Nat} (hb9 : b ∈ BK) (f : pFr h h' [ad 3]) {g : Nat → Option Nat} (hg0 : pAt h (ad 3) (aB Y 6 g)) (hg1 : ∀ j, j < 6 → g j = some (dk j)) (hv : pAt h' (ad 3) (aB Y 6 (va_up g i (some b)))) :
    CRep Y h' ad (va_up dk i b, (BK, bS, bN, bV, bT, vA, sA), (ink, cop, wai, O), (nx, he, C), tl) := by
  obtain ⟨hx, hd, hb, hn, hs, hh, ht⟩ := H
  obtain ⟨⟨g4, hg4, -⟩, hs3⟩ := id hs
  refine ⟨hx.fr f (nin1 (hx.kinds hg0 (by simp))), ⟨_, hv, fun j hj => ?_⟩, hb.fr f (fun c hc => ⟨nin1 ((hb c hc).1.kinds hg0 (by simp)), nin1 ((hb c hc).2.1.kinds hg0 (by simp)), nin1 ((hb c hc).2.2.1.kinds hg0 (by simp))⟩), hn, hs.fr f ?_ (fun i hi => nin1 ((hs3 i hi).1.kinds hg0 (by simp))) (fun i hi => ?_) (fun q e hq => nin1 (hq.kinds hg0 (by simp))), hh.fr f (nin1 (hh.1.kinds hg0 (by simp))) (fun k hk => nin1 ((hh.2.1 k hk).kinds hg0 (by simp))), ht.fr f (nin1 (pAt.kinds ht hg0 (by simp)))⟩
  · by_cases e : j = i
    · subst e; rw [va_up_self, va_up_self]; exact ⟨rfl, hb9⟩
    · rw [va_up_ne _ _ e, va_up_ne _ _ e]
      obtain ⟨g2, hg2, hg3⟩ := hd
      exact ⟨hg1 j hj, (hg3 j hj).2⟩
  · exact nin1 (hg4.kinds hg0 (by simp))
  · obtain ⟨-, -, g9, hg9, -⟩ := hs3 i hi
    exact nin1 (hg9.kinds hg0 (by simp))
/-- a scribe's numbers have changed -/
theorem CRep.scr (H : CRep Y h ad (dk, (BK, bS, bN, bV, bT, vA, sA), (ink, cop, wai, O), (nx, he, C), tl)) {i : Nat} (hi : i < 3) (f : pFr h h' [ad (7 + i)]) {a b : Int32} (hv : pAt h' (ad (7 + i)) (oScr a b (nI (wai i)) (ad (10 + i)))) :
    CRep Y h' ad (dk, (BK, bS, bN, bV, bT, vA, sA), (upd ink i a, upd cop i b, wai, O), (nx, he, C), tl) := by
  obtain ⟨hx, hd, hb, hn, hs, hh, ht⟩ := H
  obtain ⟨⟨g4, hg4, hg4'⟩, hs3⟩ := id hs
  obtain ⟨g, hg, -⟩ := id hd
  have h0 := (hs3 i hi).1
  refine ⟨hx.fr f (nin1 (hx.kinds h0 (by simp))), hd.fr f (nin1 (hg.kinds h0 (by simp))), hb.fr f (fun c hc => ⟨nin1 ((hb c hc).1.kinds h0 (by simp)), nin1 ((hb c hc).2.1.kinds h0 (by simp)), nin1 ((hb c hc).2.2.1.kinds h0 (by simp))⟩), hn, ⟨⟨g4, f _ _ (nin1 (hg4.kinds h0 (by simp))) hg4, hg4'⟩, fun j hj => ?_⟩, hh.fr f (nin1 (hh.1.kinds h0 (by simp))) (fun k hk => nin1 ((hh.2.1 k hk).kinds h0 (by simp))), ht.fr f (nin1 (pAt.kinds ht h0 (by simp)))⟩
  obtain ⟨q1, q2, g9, q3, q4⟩ := hs3 j hj
  have q4' : ∀ k, k < wai j → ∃ q, g9 k = some q ∧ pAt h' q (oPa j (O j k)) := fun k hk => by
    obtain ⟨q, e1, e2⟩ := q4 k hk
    exact ⟨q, e1, f _ _ (nin1 (e2.kinds h0 (by simp [oPa]))) e2⟩
  have q3' : pAt h' (ad (10 + j)) (aP Y 8 g9) := f _ _ (nin1 (q3.kinds h0 (by simp))) q3
  by_cases e : j = i
  · subst e
    refine ⟨?_, q2, g9, q3', q4'⟩
    rw [pk_us, pk_us]; exact hv
  · refine ⟨?_, q2, g9, q3', q4'⟩
    rw [pk_un e, pk_un e]
    exact f _ _ (nin1 (fun q => e (hn.2.2.2.2.2.1 j i hj hi q))) q1
/-- the tallies have changed -/
theorem CRep.tal (H : CRep Y h ad (dk, (BK, bS, bN, bV, bT, vA, sA), (ink, cop, wai, O), (nx, he, C), tl)) (f : pFr h h' [ad 6]) {tl' : Nat → Int32} (hv : pAt h' (ad 6) (aI Y 8 tl')) :
    CRep Y h' ad (dk, (BK, bS, bN, bV, bT, vA, sA), (ink, cop, wai, O), (nx, he, C), tl') := by
  obtain ⟨hx, hd, hb, hn, hs, hh, ht⟩ := H
  obtain ⟨⟨g4, hg4, hg4'⟩, hs3⟩ := id hs
  obtain ⟨g, hg, -⟩ := id hd
  have h0 : pAt h (ad 6) (aI Y 8 tl) := ht
  refine ⟨hx.fr f (nin1 (hx.kinds h0 (by simp))), hd.fr f (nin1 (hg.kinds h0 (by simp))), hb.fr f (fun c hc => ⟨nin1 ((hb c hc).1.kinds h0 (by simp)), nin1 ((hb c hc).2.1.kinds h0 (by simp)), nin1 (hn.2.2.1 c hc).1⟩), hn, hs.fr f (nin1 (hg4.kinds h0 (by simp))) (fun i hi => nin1 ((hs3 i hi).1.kinds h0 (by simp))) (fun i hi => ?_) (fun q e hq => nin1 (hq.kinds h0 (by simp))), hh.fr f (nin1 (hh.1.kinds h0 (by simp))) (fun k hk => nin1 (hn.2.2.2.1 k hk)), hv⟩
  obtain ⟨-, -, g9, hg9, -⟩ := hs3 i hi
  exact nin1 (hg9.kinds h0 (by simp))
def cRowp (C : Nat → Nat → Int32) (x : Nat) (a b c d : Int32) : Nat → Nat → Int32 := fun k => if k = 0 then upd (C 0) x a else if k = 1 then upd (C 1) x b else if k = 2 then upd (C 2) x c else upd (C 3) x d
/-- a passage comes into the chronicle -/
theorem CRep.chr (H : CRep Y h ad (dk, (BK, bS, bN, bV, bT, vA, sA), (ink, cop, wai, O), (nx, he, C), tl)) (f : pFr h h' [ad 13, ad 14, ad 15, ad 16, ad 5]) {a b c d : Int32} {nx' he' : Nat} (hnx : nx' < 16) (hhe : he' ≤ 16) (h1 : pAt h' (ad 13) (aI Y 16 (upd (C 0) nx a))) (h2 : pAt h' (ad 14) (aI Y 16 (upd (C 1) nx b))) (h3 : pAt h' (ad 15) (aI Y 16 (upd (C 2) nx c))) (h4 : pAt h' (ad 16) (aI Y 16 (upd (C 3) nx d))) (h5 : pAt h' (ad 5) (oChr (ad 13) (ad 14) (ad 15) (ad 16) (nI nx') (nI he'))) :
    CRep Y h' ad (dk, (BK, bS, bN, bV, bT, vA, sA), (ink, cop, wai, O), (nx', he', cRowp C nx a b c d), tl) := by
  obtain ⟨hx, hd, hb, hn, hs, hh, ht⟩ := H
  obtain ⟨⟨g4, hg4, hg4'⟩, hs3⟩ := id hs
  obtain ⟨g, hg, -⟩ := id hd
  have c0 := hh.2.1 0 (by decide)
  have c1 := hh.2.1 1 (by decide)
  have c2 := hh.2.1 2 (by decide)
  have c3 := hh.2.1 3 (by decide)
  have c5 := hh.1
  have key : ∀ {z : Nat} {e : va_E}, pAt h z e → (∀ g9, e ≠ aI Y 16 g9) → (∀ a b c d n m, e ≠ oChr a b c d n m) → z ∉ [ad 13, ad 14, ad 15, ad 16, ad 5] := fun hz n1 n2 => nin5 (hz.kinds c0 (n1 _)) (hz.kinds c1 (n1 _)) (hz.kinds c2 (n1 _)) (hz.kinds c3 (n1 _)) (hz.kinds c5 (n2 _ _ _ _ _ _))
  refine ⟨hx.fr f (key hx (by simp) (by simp)), hd.fr f (key hg (by simp) (by simp)), hb.fr f (fun b hb9 => ⟨key (hb b hb9).1 (by simp) (by simp), key (hb b hb9).2.1 (by simp) (by simp), ?_⟩), hn, hs.fr f (key hg4 (by simp) (by simp)) (fun i hi => key (hs3 i hi).1 (by simp) (by simp)) (fun i hi => ?_) (fun q e hq => key hq (by simp) (by simp)), ⟨h5, fun k hk => ?_, hnx, hhe⟩, ht.fr f ?_⟩
  · have q := (hn.2.2.1 b hb9).2
    exact nin5 (q 0 (by decide)) (q 1 (by decide)) (q 2 (by decide)) (q 3 (by decide)) ((hb b hb9).2.2.1.kinds c5 (by simp))
  · obtain ⟨-, -, g9, hg9, -⟩ := hs3 i hi
    exact key hg9 (by simp) (by simp)
  · rcases (show k = 0 ∨ k = 1 ∨ k = 2 ∨ k = 3 by omega) with rfl | rfl | rfl | rfl
    · exact h1
    · exact h2
    · exact h3
    · exact h4
  · have q := hn.2.2.2.1
    exact nin5 (q 0 (by decide)).symm (q 1 (by decide)).symm (q 2 (by decide)).symm (q 3 (by decide)).symm (pAt.kinds ht c5 (by simp))
def ordUp (O : Nat → Nat → Ord) (i k : Nat) (o : Ord) : Nat → Nat → Ord := va_up O i (va_up (O i) k o)
/-- a scribe's orders have changed: their count, their row -/
theorem CRep.ords (H : CRep Y h ad (dk, (BK, bS, bN, bV, bT, vA, sA), (ink, cop, wai, O), (nx, he, C), tl)) {i : Nat} (hi : i < 3) (f : pFr h h' [ad (10 + i), ad (7 + i)]) {w : Nat} (hw : w ≤ 8) {g : Nat → Option Nat} (hg1 : pAt h' (ad (10 + i)) (aP Y 8 g)) (hv : pAt h' (ad (7 + i)) (oScr (ink i) (cop i) (nI w) (ad (10 + i)))) {Oi : Nat → Ord} (ho : ∀ k, k < w → ∃ q, g k = some q ∧ pAt h q (oPa i (Oi k))) :
    CRep Y h' ad (dk, (BK, bS, bN, bV, bT, vA, sA), (ink, cop, va_up wai i w, va_up O i Oi), (nx, he, C), tl) := by
  obtain ⟨hx, hd, hb, hn, hs, hh, ht⟩ := H
  obtain ⟨⟨g4, hg4, hg4'⟩, hs3⟩ := id hs
  obtain ⟨g0, hg0, -⟩ := id hd
  have h0 := (hs3 i hi).1
  obtain ⟨-, -, g8, hg8, -⟩ := id (hs3 i hi)
  have key : ∀ {z : Nat} {e : va_E}, pAt h z e → (∀ g9, e ≠ aP Y 8 g9) → (∀ a b c d, e ≠ oScr a b c d) → z ∉ [ad (10 + i), ad (7 + i)] := fun hz n1 n2 => nin2 (hz.kinds hg8 (n1 _)) (hz.kinds h0 (n2 _ _ _ _))
  refine ⟨hx.fr f (key hx (by simp) (by simp)), hd.fr f (key hg0 (by simp) (by simp)), hb.fr f (fun c hc => ⟨key (hb c hc).1 (by simp) (by simp), key (hb c hc).2.1 (by simp) (by simp), key (hb c hc).2.2.1 (by simp) (by simp)⟩), hn, ⟨⟨g4, f _ _ (key hg4 (by simp) (by simp)) hg4, hg4'⟩, fun j hj => ?_⟩, hh.fr f (key hh.1 (by simp) (by simp)) (fun k hk => key (hh.2.1 k hk) (by simp) (by simp)), ht.fr f (key ht (by simp) (by simp))⟩
  have pq : ∀ {q : Nat} {e : va_E} (j : Nat) (o : Ord), e = oPa j o → pAt h q e → pAt h' q e := fun j o e1 e2 => f _ _ (key e2 (by rw [e1]; simp [oPa]) (by rw [e1]; simp [oPa])) e2
  by_cases e : j = i
  · subst e
    show pAt h' (ad (7 + j)) (oScr (ink j) (cop j) (nI (va_up wai j w j)) (ad (10 + j))) ∧ va_up wai j w j ≤ 8 ∧ ∃ f, pAt h' (ad (10 + j)) (aP Y 8 f) ∧ ∀ k, k < va_up wai j w j → ∃ q, f k = some q ∧ pAt h' q (oPa j (va_up O j Oi j k))
    rw [va_up_self, va_up_self]
    refine ⟨hv, hw, g, hg1, fun k hk => ?_⟩
    obtain ⟨q, e1, e2⟩ := ho k hk
    exact ⟨q, e1, pq j (Oi k) rfl e2⟩
  · obtain ⟨q1, q2, g9, q3, q4⟩ := hs3 j hj
    show pAt h' (ad (7 + j)) (oScr (ink j) (cop j) (nI (va_up wai i w j)) (ad (10 + j))) ∧ va_up wai i w j ≤ 8 ∧ ∃ f, pAt h' (ad (10 + j)) (aP Y 8 f) ∧ ∀ k, k < va_up wai i w j → ∃ q, f k = some q ∧ pAt h' q (oPa j (va_up O i Oi j k))
    rw [va_up_ne _ _ e, va_up_ne _ _ e]
    refine ⟨f _ _ (nin2 (q1.kinds hg8 (by simp)) (fun q => e (hn.2.2.2.2.2.1 j i hj hi q))) q1, q2, g9, f _ _ (nin2 (fun q => e (hn.2.2.2.2.2.2.1 j i hj hi q)) (q3.kinds h0 (by simp))) q3, fun k hk => ?_⟩
    obtain ⟨q, e1, e2⟩ := q4 k hk
    exact ⟨q, e1, pq j (O j k) rfl e2⟩
/-- a new book -/
theorem CRep.more (H : CRep Y h ad (dk, (BK, bS, bN, bV, bT, vA, sA), (ink, cop, wai, O), (nx, he, C), tl)) {b v so n : Nat} {sc : Int32} {V : Nat → Int64} {T : Nat → Int32} (hb9 : pAt h b (oBook sc v so)) (hv : pAt h v (aJ Y n V)) (hs9 : pAt h so (aI Y n T)) (hn40 : n ≤ 40) (nb : b ∉ BK) (nv : ∀ c, c ∈ BK → vA c ≠ v) (ns : ∀ c, c ∈ BK → sA c ≠ so) (n6 : so ≠ ad 6) (n13 : ∀ k, k < 4 → so ≠ ad (13 + k)) :
    CRep Y h ad (dk, (b :: BK, va_up bS b sc, va_up bN b n, va_up bV b V, va_up bT b T, va_up vA b v, va_up sA b so), (ink, cop, wai, O), (nx, he, C), tl) := by
  obtain ⟨hx, hd, hb, hn, hs, hh, ht⟩ := H
  obtain ⟨g, hg, hg'⟩ := hd
  have neb : ∀ c, c ∈ BK → c ≠ b := fun c hc e => nb (e ▸ hc)
  refine ⟨hx, ⟨g, hg, fun i hi => ⟨(hg' i hi).1, List.mem_cons_of_mem _ (hg' i hi).2⟩⟩, fun c hc => ?_, ⟨fun c hc e9 he => ?_, fun c hc e9 he => ?_, fun c hc => ?_, hn.2.2.2.1, hn.2.2.2.2.1, hn.2.2.2.2.2.1, hn.2.2.2.2.2.2.1, List.mem_cons_of_mem _ hn.2.2.2.2.2.2.2.1, List.mem_cons_of_mem _ hn.2.2.2.2.2.2.2.2⟩, hs, hh, ht⟩
  · rcases List.mem_cons.mp hc with rfl | hc1
    · simp only [va_up_self]; exact ⟨hb9, hv, hs9, hn40⟩
    · have e := neb c hc1
      simp only [va_up_ne _ _ e]; exact hb c hc1
  · rcases List.mem_cons.mp hc with rfl | hc1
    · rcases List.mem_cons.mp he with rfl | he1
      · exact fun _ => rfl
      · rw [va_up_self, va_up_ne _ _ (neb e9 he1)]; exact fun q => absurd q.symm (nv e9 he1)
    · rcases List.mem_cons.mp he with rfl | he1
      · rw [va_up_self, va_up_ne _ _ (neb c hc1)]; exact fun q => absurd q (nv c hc1)
      · rw [va_up_ne _ _ (neb c hc1), va_up_ne _ _ (neb e9 he1)]; exact hn.1 c hc1 e9 he1
  · rcases List.mem_cons.mp hc with rfl | hc1
    · rcases List.mem_cons.mp he with rfl | he1
      · exact fun _ => rfl
      · rw [va_up_self, va_up_ne _ _ (neb e9 he1)]; exact fun q => absurd q.symm (ns e9 he1)
    · rcases List.mem_cons.mp he with rfl | he1
      · rw [va_up_self, va_up_ne _ _ (neb c hc1)]; exact fun q => absurd q (ns c hc1)
      · rw [va_up_ne _ _ (neb c hc1), va_up_ne _ _ (neb e9 he1)]; exact hn.2.1 c hc1 e9 he1
  · rcases List.mem_cons.mp hc with rfl | hc1
    · rw [va_up_self]; exact ⟨n6, n13⟩
    · rw [va_up_ne _ _ (neb c hc1)]; exact hn.2.2.1 c hc1
end CRP
end
section
/-! the class's larger methods, as relations -/
theorem six {s : Int32} (h1 : ¬ s < 0) (h2 : ¬ 6 ≤ s) : s = 0 ∨ s = 1 ∨ s = 2 ∨ s = 3 ∨ s = 4 ∨ s = 5 := by
  obtain ⟨j, hj, rfl⟩ := vp_in_of (in_of (N := 6) (n := 6) rfl h1 h2) (by decide)
  rcases (show j = 0 ∨ j = 1 ∨ j = 2 ∨ j = 3 ∨ j = 4 ∨ j = 5 by omega) with rfl | rfl | rfl | rfl | rfl | rfl
  · exact Or.inl rfl
  · exact Or.inr (Or.inl rfl)
  · exact Or.inr (Or.inr (Or.inl rfl))
  · exact Or.inr (Or.inr (Or.inr (Or.inl rfl)))
  · exact Or.inr (Or.inr (Or.inr (Or.inr (Or.inl rfl))))
  · exact Or.inr (Or.inr (Or.inr (Or.inr (Or.inr rfl))))
def cHin (s t : Int32) : Int32 := if s = -1 ∨ t = -1 then -1 else if cAlike s t then 0 else -2
theorem mDone_pos {r : Int32} (h : ¬ r < 0) : r = mDone r := by
  unfold mDone
  rw [if_neg (fun q => h (Int32.lt_of_le_of_lt q (by decide)))]
  by_cases h2 : 0 < r
  · rw [if_pos h2]
  · rw [if_neg h2]; exact Int32.le_antisymm (Int32.not_lt.mp h2) (Int32.not_lt.mp h)
theorem mDone_mid {r : Int32} (h : r < 0) (h2 : -10 < r) : 0 = mDone r := by
  unfold mDone
  rw [if_neg (Int32.not_le.mpr h2), if_neg (fun q => absurd (Int32.lt_trans q h) (Int32.lt_irrefl))]
theorem mDone_low {r : Int32} (h2 : ¬ -10 < r) : -10 - r = mDone r := by
  unfold mDone; rw [if_pos (Int32.not_lt.mp h2)]
abbrev rRng (r : Int32) : Prop := r = -1 ∨ r = -2 ∨ r = -3 ∨ (∃ k : Nat, k ≤ 40 ∧ r = nI k) ∨ (∃ k : Nat, k < 40 ∧ r = -10 - nI k)
theorem rRng_default {r : Int32} (h : rRng r) (h1 : ¬ r = -1) (h2 : ¬ r = -2) (h3 : ¬ r = -3) : (∃ k : Nat, k ≤ 40 ∧ r = nI k) ∨ (∃ k : Nat, k < 40 ∧ r = -10 - nI k) := by
  rcases h with q | q | q | q | q
  · exact absurd q h1
  · exact absurd q h2
  · exact absurd q h3
  · exact Or.inl q
  · exact Or.inr q
theorem m10t : ∀ k : Fin 41, ((-10 - nI k.val : Int32).toInt < -3) ∧ (-10 - nI k.val : Int32) < 0 := by decide +kernel
theorem rOut {r : Int32} (h : (∃ k : Nat, k ≤ 40 ∧ r = nI k) ∨ (∃ k : Nat, k < 40 ∧ r = -10 - nI k)) : r.toInt < -3 ∨ -1 < r.toInt := by
  rcases h with ⟨k, hk, rfl⟩ | ⟨k, hk, rfl⟩
  · right; rw [nI_toInt (by omega)]; omega
  · left; exact (m10t ⟨k, by omega⟩).1
theorem rTal1 {r : Int32} (h1 : ¬ r < 0) : 1 = mTal r := by unfold mTal; rw [if_pos h1]
theorem rTal5 {r : Int32} (h : (∃ k : Nat, k ≤ 40 ∧ r = nI k) ∨ (∃ k : Nat, k < 40 ∧ r = -10 - nI k)) (h1 : r < 0) : 5 = mTal r := by
  rcases h with ⟨k, hk, rfl⟩ | ⟨k, hk, rfl⟩
  · exact absurd h1 (nI_pos (by omega))
  · unfold mTal; rw [if_neg (fun q => q h1), if_pos (m10 ⟨k, by omega⟩).2]
/-- a passage between two books of the class -/
def cPassP (s1 s2 : Int32) (n1 n2 : Nat) (V1 V2 : Nat → Int64) (T1 T2 : Nat → Int32) (i j n : Int32) (r : Int32) (V' : Nat → Int64) (T' : Nat → Int32) : Prop :=
  (¬ cHin s1 s2 = 0 ∧ r = cHin s1 s2 ∧ V' = V2 ∧ T' = T2) ∨
  (cHin s1 s2 = 0 ∧ ¬ (cRun n1 i n ∧ cRun n2 j n) ∧ r = -3 ∧ V' = V2 ∧ T' = T2) ∨
  (cHin s1 s2 = 0 ∧ ∃ ii jj nn st : Nat, i = nI ii ∧ j = nI jj ∧ n = nI nn ∧ ii + nn ≤ n1 ∧ jj + nn ≤ n2 ∧ cStop s2 T1 ii nn st ∧ r = (if st < nn then -10 - nI st else nI nn) ∧ V' = va_cpy V1 V2 ii jj st ∧ T' = va_cpy T1 T2 ii jj st)
theorem cRun_nat {n : Nat} {i k : Int32} (hn : n ≤ 40) (h : cRun n i k) : ∃ ii nn : Nat, i = nI ii ∧ k = nI nn ∧ ii + nn ≤ n := by
  obtain ⟨h1, h2, h3⟩ := h
  obtain ⟨ii, hi, rfl⟩ := nI_of h1
  obtain ⟨nn, hnn, rfl⟩ := nI_of h2
  refine ⟨ii, nn, rfl, rfl, ?_⟩
  by_cases q : nn ≤ n
  · rw [pk_sub q, nI_ltI (by omega) hi] at h3; omega
  · exfalso
    apply h3
    have e1 : (nI n - nI nn).toInt = (n : Int) - nn := by
      rw [Int32.toInt_sub, nI_toInt (by omega), nI_toInt hnn]
      have : ((n : Int) - nn).bmod (2 ^ 32) = (n : Int) - nn := by
        apply Int.bmod_eq_of_le <;> omega
      exact this
    rw [Int32.lt_iff_toInt_lt, e1, nI_toInt hi]; omega
theorem cPass_rng {s1 s2 : Int32} {n1 n2 : Nat} {V1 V2 : Nat → Int64} {T1 T2 : Nat → Int32} {i j n r : Int32} {V' : Nat → Int64} {T' : Nat → Int32} (hn : n2 ≤ 40) (h : cPassP s1 s2 n1 n2 V1 V2 T1 T2 i j n r V' T') : rRng r := by
  rcases h with ⟨h1, rfl, -⟩ | ⟨-, -, rfl, -⟩ | ⟨-, ii, jj, nn, st, -, -, -, -, h2, h3, rfl, -⟩
  · unfold cHin at h1 ⊢
    by_cases q : s1 = -1 ∨ s2 = -1
    · rw [if_pos q]; exact Or.inl rfl
    · rw [if_neg q] at h1 ⊢
      by_cases q2 : cAlike s1 s2
      · rw [if_pos q2] at h1; exact absurd rfl h1
      · rw [if_neg q2]; exact Or.inr (Or.inl rfl)
  · exact Or.inr (Or.inr (Or.inl rfl))
  · by_cases hs : st < nn
    · rw [if_pos hs]; exact Or.inr (Or.inr (Or.inr (Or.inr ⟨st, by omega, rfl⟩)))
    · rw [if_neg hs]; exact Or.inr (Or.inr (Or.inr (Or.inl ⟨nn, by omega, rfl⟩)))
/-- the tallies behind a passage -/
def cTl (tl : Nat → Int32) (r : Int32) : Nat → Int32 := upd (upd (upd tl 0 (tl 0 + 1)) (cl (mTal r)) (upd tl 0 (tl 0 + 1) (cl (mTal r)) + 1)) 6 (upd (upd tl 0 (tl 0 + 1)) (cl (mTal r)) (upd tl 0 (tl 0 + 1) (cl (mTal r)) + 1) 6 + mDone r)
/-- a passage in the class's state -/
def cPerfP (cs : CSt) (s a i b j n : Int32) (r : Int32) (cs' : CSt) : Prop := match cs with
  | (dk, (BK, bS, bN, bV, bT, vA, sA), (ink, cop, wai, O), (nx, he, C), tl) =>
    (¬ (isS s ∧ isD a ∧ isD b) ∧ r = -99 ∧ cs' = cs) ∨ ((isS s ∧ isD a ∧ isD b) ∧ ink (cl s) < n ∧ r = -50 ∧ cs' = cs) ∨
    ((isS s ∧ isD a ∧ isD b) ∧ ¬ ink (cl s) < n ∧ ∃ (V' : Nat → Int64) (T' : Nat → Int32), cPassP (bS (dk (cl a))) (bS (dk (cl b))) (bN (dk (cl a))) (bN (dk (cl b))) (bV (dk (cl a))) (bV (dk (cl b))) (bT (dk (cl a))) (bT (dk (cl b))) i j n r V' T' ∧
      cs' = (dk, (BK, bS, bN, va_up bV (dk (cl b)) V', va_up bT (dk (cl b)) T', vA, sA), (upd ink (cl s) (ink (cl s) - mDone r), upd cop (cl s) (cop (cl s) + mDone r), wai, O), ((nx + 1) % 16, (if he + 1 < 16 then he + 1 else 16), cRowp C nx s a b r), cTl tl r))
def cDiff (n1 n2 : Nat) (V1 V2 : Nat → Int64) (T1 T2 : Nat → Int32) (r : Int32) : Prop :=
  (∃ k : Nat, k < n1 ∧ k < n2 ∧ (∀ j, j < k → V1 j = V2 j ∧ T1 j = T2 j) ∧ ¬ (V1 k = V2 k ∧ T1 k = T2 k) ∧ r = nI k) ∨
  ((∀ j, j < n1 → j < n2 → V1 j = V2 j ∧ T1 j = T2 j) ∧ ((n1 = n2 ∧ r = -60) ∨ (n1 < n2 ∧ r = nI n1) ∨ (n2 < n1 ∧ r = nI n2)))
end
section
set_option maxHeartbeats 4000000 in
set_option maxRecDepth 100000 in
theorem c_X4_isDesk (l : Launch) (G : va_G) (Y : Nat → ClassId)  {S : Type} (wf : S → va_W) (u : S) (p0 : Int32)  : ctI l G Y wf yX4_isDesk wsX4_isDesk ({ frames := 0, cells := 0, slots := 0, locals := 0 }) [.int p0] u (fun r u' => u' = u ∧ ((isD p0 ∧ r = 1) ∨ (¬ isD p0 ∧ r = 0))) := by
  refine ctI.of (cc := cX4_isDesk) (maxL := 1) (ret := (some .boolean)) (by decide +kernel) rfl (Nat.le_of_ble_eq_true rfl) ?_
  intro A p e s m below meth c ls hB
  obtain ⟨F, hr, hlocks, hnm, hK, hA, hw, hl⟩ := hB
  obtain ⟨hx, hb, hml, hown, hts⟩ := id F
  have hl : lv_has ls 1 [(0, .int p0)] := hl
  refine lv_iload_n hx hb dX4_isDesk_0 rfl (lv_at hl 0 rfl) ?_
  refine lv_if_lt (tgt := 14) hx hb dX4_isDesk_1 (by decide) (fun c_1 => ?_) (fun c_1 => ?_)
  · skip
    refine lv_iconst (v := 0) hx hb dX4_isDesk_14 (by decide) ?_
    exact ct_iret hx hb hr rfl hlocks hK hw dX4_isDesk_15 (Nat.le_of_ble_eq_true rfl) (Nat.le_of_ble_eq_true rfl) ⟨rfl, Or.inr ⟨fun h => h.1 c_1, rfl⟩⟩
  · skip
    refine lv_iload_n hx hb dX4_isDesk_4 rfl (lv_at hl 0 rfl) ?_
    refine lv_bipush (v := 6) hx hb dX4_isDesk_5 (by decide) ?_
    refine lv_icmp_ge (tgt := 14) hx hb dX4_isDesk_7 (by decide) (fun c_7 => ?_) (fun c_7 => ?_)
    · skip
      refine lv_iconst (v := 0) hx hb dX4_isDesk_14 (by decide) ?_
      exact ct_iret hx hb hr rfl hlocks hK hw dX4_isDesk_15 (Nat.le_of_ble_eq_true rfl) (Nat.le_of_ble_eq_true rfl) ⟨rfl, Or.inr ⟨fun h => h.2 c_7, rfl⟩⟩
    · skip
      refine lv_iconst (v := 1) hx hb dX4_isDesk_10 (by decide) ?_
      refine lv_goto (tgt := 15) hx hb dX4_isDesk_11 (by decide) ?_
      exact ct_iret hx hb hr rfl hlocks hK hw dX4_isDesk_15 (Nat.le_of_ble_eq_true rfl) (Nat.le_of_ble_eq_true rfl) ⟨rfl, Or.inl ⟨⟨c_1, c_7⟩, rfl⟩⟩

set_option maxHeartbeats 4000000 in
set_option maxRecDepth 100000 in
theorem c_X4_isScribe (l : Launch) (G : va_G) (Y : Nat → ClassId)  {S : Type} (wf : S → va_W) (u : S) (p0 : Int32)  : ctI l G Y wf yX4_isScribe wsX4_isScribe ({ frames := 0, cells := 0, slots := 0, locals := 0 }) [.int p0] u (fun r u' => u' = u ∧ ((isS p0 ∧ r = 1) ∨ (¬ isS p0 ∧ r = 0))) := by
  refine ctI.of (cc := cX4_isScribe) (maxL := 1) (ret := (some .boolean)) (by decide +kernel) rfl (Nat.le_of_ble_eq_true rfl) ?_
  intro A p e s m below meth c ls hB
  obtain ⟨F, hr, hlocks, hnm, hK, hA, hw, hl⟩ := hB
  obtain ⟨hx, hb, hml, hown, hts⟩ := id F
  have hl : lv_has ls 1 [(0, .int p0)] := hl
  refine lv_iload_n hx hb dX4_isScribe_0 rfl (lv_at hl 0 rfl) ?_
  refine lv_if_lt (tgt := 13) hx hb dX4_isScribe_1 (by decide) (fun c_1 => ?_) (fun c_1 => ?_)
  · skip
    refine lv_iconst (v := 0) hx hb dX4_isScribe_13 (by decide) ?_
    exact ct_iret hx hb hr rfl hlocks hK hw dX4_isScribe_14 (Nat.le_of_ble_eq_true rfl) (Nat.le_of_ble_eq_true rfl) ⟨rfl, Or.inr ⟨fun h => h.1 c_1, rfl⟩⟩
  · skip
    refine lv_iload_n hx hb dX4_isScribe_4 rfl (lv_at hl 0 rfl) ?_
    refine lv_iconst (v := 3) hx hb dX4_isScribe_5 (by decide) ?_
    refine lv_icmp_ge (tgt := 13) hx hb dX4_isScribe_6 (by decide) (fun c_6 => ?_) (fun c_6 => ?_)
    · skip
      refine lv_iconst (v := 0) hx hb dX4_isScribe_13 (by decide) ?_
      exact ct_iret hx hb hr rfl hlocks hK hw dX4_isScribe_14 (Nat.le_of_ble_eq_true rfl) (Nat.le_of_ble_eq_true rfl) ⟨rfl, Or.inr ⟨fun h => h.2 c_6, rfl⟩⟩
    · skip
      refine lv_iconst (v := 1) hx hb dX4_isScribe_9 (by decide) ?_
      refine lv_goto (tgt := 14) hx hb dX4_isScribe_10 (by decide) ?_
      exact ct_iret hx hb hr rfl hlocks hK hw dX4_isScribe_14 (Nat.le_of_ble_eq_true rfl) (Nat.le_of_ble_eq_true rfl) ⟨rfl, Or.inl ⟨⟨c_1, c_6⟩, rfl⟩⟩

set_option maxHeartbeats 4000000 in
set_option maxRecDepth 100000 in
theorem c_X4_signsCopied (l : Launch) (G : va_G) (Y : Nat → ClassId)  {S : Type} (wf : S → va_W) (u : S) (p0 : Int32)  : ctI l G Y wf yX4_signsCopied wsX4_signsCopied ({ frames := 0, cells := 0, slots := 0, locals := 0 }) [.int p0] u (fun r u' => u' = u ∧ r = mDone p0) := by
  refine ctI.of (cc := cX4_signsCopied) (maxL := 1) (ret := (some .int)) (by decide +kernel) rfl (Nat.le_of_ble_eq_true rfl) ?_
  intro A p e s m below meth c ls hB
  obtain ⟨F, hr, hlocks, hnm, hK, hA, hw, hl⟩ := hB
  obtain ⟨hx, hb, hml, hown, hts⟩ := id F
  have hl : lv_has ls 1 [(0, .int p0)] := hl
  refine lv_iload_n hx hb dX4_signsCopied_0 rfl (lv_at hl 0 rfl) ?_
  refine lv_if_lt (tgt := 6) hx hb dX4_signsCopied_1 (by decide) (fun c_1 => ?_) (fun c_1 => ?_)
  · skip
    refine lv_iload_n hx hb dX4_signsCopied_6 rfl (lv_at hl 0 rfl) ?_
    refine lv_bipush (v := -10) hx hb dX4_signsCopied_7 (by decide) ?_
    refine lv_icmp_gt (tgt := 19) hx hb dX4_signsCopied_9 (by decide) (fun c_9 => ?_) (fun c_9 => ?_)
    · skip
      refine lv_iconst (v := 0) hx hb dX4_signsCopied_19 (by decide) ?_
      exact ct_iret hx hb hr (vp_nar_int _) hlocks hK hw dX4_signsCopied_20 (Nat.le_of_ble_eq_true rfl) (Nat.le_of_ble_eq_true rfl) ⟨rfl, mDone_mid c_1 c_9⟩
    · skip
      refine lv_bipush (v := -10) hx hb dX4_signsCopied_12 (by decide) ?_
      refine lv_iload_n hx hb dX4_signsCopied_14 rfl (lv_at hl 0 rfl) ?_
      refine lv_isub hx hb dX4_signsCopied_15 ?_
      refine lv_goto (tgt := 20) hx hb dX4_signsCopied_16 (by decide) ?_
      exact ct_iret hx hb hr (vp_nar_int _) hlocks hK hw dX4_signsCopied_20 (Nat.le_of_ble_eq_true rfl) (Nat.le_of_ble_eq_true rfl) ⟨rfl, mDone_low c_9⟩
  · skip
    refine lv_iload_n hx hb dX4_signsCopied_4 rfl (lv_at hl 0 rfl) ?_
    exact ct_iret hx hb hr (vp_nar_int _) hlocks hK hw dX4_signsCopied_5 (Nat.le_of_ble_eq_true rfl) (Nat.le_of_ble_eq_true rfl) ⟨rfl, mDone_pos c_1⟩

set_option maxHeartbeats 4000000 in
set_option maxRecDepth 100000 in
theorem c_X4_tallyOf (l : Launch) (G : va_G) (Y : Nat → ClassId)  {S : Type} (wf : S → va_W) (u : S) (p0 : Int32) (hr9 : rRng p0) : ctI l G Y wf yX4_tallyOf wsX4_tallyOf ({ frames := 0, cells := 0, slots := 0, locals := 0 }) [.int p0] u (fun r u' => u' = u ∧ r = mTal p0) := by
  refine ctI.of (cc := cX4_tallyOf) (maxL := 1) (ret := (some .int)) (by decide +kernel) rfl (Nat.le_of_ble_eq_true rfl) ?_
  intro A p e s m below meth c ls hB
  obtain ⟨F, hr, hlocks, hnm, hK, hA, hw, hl⟩ := hB
  obtain ⟨hx, hb, hml, hown, hts⟩ := id F
  have hl : lv_has ls 1 [(0, .int p0)] := hl
  refine lv_iload_n hx hb dX4_tallyOf_0 rfl (lv_at hl 0 rfl) ?_
  by_cases k1 : p0 = -1
  · subst k1
    refine lv_tableIn (off := 27) (tgt := 28) hx hb dX4_tallyOf_1 (by decide) (by decide) (by decide) (by decide) ?_
    refine lv_iconst (v := 2) hx hb dX4_tallyOf_28 (by decide) ?_
    exact ct_iret hx hb hr (vp_nar_int _) hlocks hK hw dX4_tallyOf_29 (Nat.le_of_ble_eq_true rfl) (Nat.le_of_ble_eq_true rfl) ⟨rfl, rfl⟩
  by_cases k2 : p0 = -2
  · subst k2
    refine lv_tableIn (off := 29) (tgt := 30) hx hb dX4_tallyOf_1 (by decide) (by decide) (by decide) (by decide) ?_
    refine lv_iconst (v := 3) hx hb dX4_tallyOf_30 (by decide) ?_
    exact ct_iret hx hb hr (vp_nar_int _) hlocks hK hw dX4_tallyOf_31 (Nat.le_of_ble_eq_true rfl) (Nat.le_of_ble_eq_true rfl) ⟨rfl, rfl⟩
  by_cases k3 : p0 = -3
  · subst k3
    refine lv_tableIn (off := 31) (tgt := 32) hx hb dX4_tallyOf_1 (by decide) (by decide) (by decide) (by decide) ?_
    refine lv_iconst (v := 4) hx hb dX4_tallyOf_32 (by decide) ?_
    exact ct_iret hx hb hr (vp_nar_int _) hlocks hK hw dX4_tallyOf_33 (Nat.le_of_ble_eq_true rfl) (Nat.le_of_ble_eq_true rfl) ⟨rfl, rfl⟩
  have hrd := rRng_default hr9 k1 k2 k3
  refine lv_tableOut (tgt := 34) hx hb dX4_tallyOf_1 (rOut hrd) (by decide) ?_
  refine lv_iload_n hx hb dX4_tallyOf_34 rfl (lv_at hl 0 rfl) ?_
  refine lv_if_lt (tgt := 42) hx hb dX4_tallyOf_35 (by decide) (fun c_35 => ?_) (fun c_35 => ?_)
  · skip
    refine lv_iconst (v := 5) hx hb dX4_tallyOf_42 (by decide) ?_
    exact ct_iret hx hb hr (vp_nar_int _) hlocks hK hw dX4_tallyOf_43 (Nat.le_of_ble_eq_true rfl) (Nat.le_of_ble_eq_true rfl) ⟨rfl, rTal5 hrd c_35⟩
  · skip
    refine lv_iconst (v := 1) hx hb dX4_tallyOf_38 (by decide) ?_
    refine lv_goto (tgt := 43) hx hb dX4_tallyOf_39 (by decide) ?_
    exact ct_iret hx hb hr (vp_nar_int _) hlocks hK hw dX4_tallyOf_43 (Nat.le_of_ble_eq_true rfl) (Nat.le_of_ble_eq_true rfl) ⟨rfl, rTal1 c_35⟩

set_option maxHeartbeats 4000000 in
set_option maxRecDepth 100000 in
theorem c_X4_isPossible (l : Launch) (G : va_G) (Y : Nat → ClassId) (h : PH) (p9 : Nat) (ps pa pi pb pj pn : Int32) (f_p : pAt h p9 (oPas ps pa pi pb pj pn)) : ctI l G Y pw yX4_isPossible wsX4_isPossible ({ frames := 1, cells := 0, slots := 0, locals := 30 }) [.ref p9] h (fun r h' => h' = h ∧ (((isS ps ∧ isD pa ∧ isD pb) ∧ r = 1) ∨ (¬ (isS ps ∧ isD pa ∧ isD pb) ∧ r = 0))) := by
  refine ctI.of (cc := cX4_isPossible) (maxL := 1) (ret := (some .boolean)) (by decide +kernel) rfl (Nat.le_of_ble_eq_true rfl) ?_
  intro A p e s m below meth c ls hB
  obtain ⟨F, hr, hlocks, hnm, hK, hA, hw, hl⟩ := hB
  obtain ⟨hx, hb, hml, hown, hts⟩ := id F
  have hl : lv_has ls 1 [(0, .ref p9)] := hl
  have hi2 : ∀ w ∈ wsX20, w ∈ wsX4_isPossible := by decide +kernel
  have hl164 : Cond.fieldLink RX4 164 "Scriptorium$Passage" "scribe" "I" ∈ wsX4_isPossible := by decide +kernel
  have hl167 : Cond.fieldLink RX4 167 "Scriptorium$Passage" "a" "I" ∈ wsX4_isPossible := by decide +kernel
  have hl170 : Cond.fieldLink RX4 170 "Scriptorium$Passage" "b" "I" ∈ wsX4_isPossible := by decide +kernel
  refine lv_aload_n hx hb dX4_isPossible_0 rfl (lv_at hl 0 rfl) ?_
  refine p_get (ci := 2) (C := RX2) (T := TX2) (N := 6) 0 F rfl hi2 hl164 (by decide) hK hw f_p rfl dX4_isPossible_1 ?_
  refine (c_X4_isScribe l G Y pw _ _).callS F (va_cwS 1 hts gX4_isPossible_X4_isScribe rfl rfl rfl (by decide +kernel) ⟨Nat.le_of_ble_eq_true rfl, Nat.le_of_ble_eq_true rfl⟩) hK hw hA rfl rfl hl.1 (Nat.le_of_ble_eq_true rfl) dX4_isPossible_4 ⟨Nat.le_of_ble_eq_true rfl, Nat.le_of_ble_eq_true rfl⟩ (fun r_4 h_4 H locs hp_4 hw => ?_)
  obtain ⟨eh_4, hp_4⟩ := hp_4
  rw [eh_4] at hw
  rcases hp_4 with ⟨hq_4, rfl⟩ | ⟨hq_4, rfl⟩
  · skip
    refine lv_if_eq (tgt := 34) hx hb dX4_isPossible_7 (by decide) (fun c_7 => ?_) (fun c_7 => ?_)
    · exact absurd c_7 (by decide)
    · skip
      refine lv_aload_n hx hb dX4_isPossible_10 rfl (lv_at hl 0 rfl) ?_
      refine p_get (ci := 2) (C := RX2) (T := TX2) (N := 6) 1 F rfl hi2 hl167 (by decide) hK hw f_p rfl dX4_isPossible_11 ?_
      refine (c_X4_isDesk l G Y pw _ _).callS F (va_cwS 1 hts gX4_isPossible_X4_isDesk rfl rfl rfl (by decide +kernel) ⟨Nat.le_of_ble_eq_true rfl, Nat.le_of_ble_eq_true rfl⟩) hK hw hA rfl rfl hl.1 (Nat.le_of_ble_eq_true rfl) dX4_isPossible_14 ⟨Nat.le_of_ble_eq_true rfl, Nat.le_of_ble_eq_true rfl⟩ (fun r_14 h_14 H locs hp_14 hw => ?_)
      obtain ⟨eh_14, hp_14⟩ := hp_14
      rw [eh_14] at hw
      rcases hp_14 with ⟨hq_14, rfl⟩ | ⟨hq_14, rfl⟩
      · skip
        refine lv_if_eq (tgt := 34) hx hb dX4_isPossible_17 (by decide) (fun c_17 => ?_) (fun c_17 => ?_)
        · exact absurd c_17 (by decide)
        · skip
          refine lv_aload_n hx hb dX4_isPossible_20 rfl (lv_at hl 0 rfl) ?_
          refine p_get (ci := 2) (C := RX2) (T := TX2) (N := 6) 3 F rfl hi2 hl170 (by decide) hK hw f_p rfl dX4_isPossible_21 ?_
          refine (c_X4_isDesk l G Y pw _ _).callS F (va_cwS 1 hts gX4_isPossible_X4_isDesk rfl rfl rfl (by decide +kernel) ⟨Nat.le_of_ble_eq_true rfl, Nat.le_of_ble_eq_true rfl⟩) hK hw hA rfl rfl hl.1 (Nat.le_of_ble_eq_true rfl) dX4_isPossible_24 ⟨Nat.le_of_ble_eq_true rfl, Nat.le_of_ble_eq_true rfl⟩ (fun r_24 h_24 H locs hp_24 hw => ?_)
          obtain ⟨eh_24, hp_24⟩ := hp_24
          rw [eh_24] at hw
          rcases hp_24 with ⟨hq_24, rfl⟩ | ⟨hq_24, rfl⟩
          · skip
            refine lv_if_eq (tgt := 34) hx hb dX4_isPossible_27 (by decide) (fun c_27 => ?_) (fun c_27 => ?_)
            · exact absurd c_27 (by decide)
            · skip
              refine lv_iconst (v := 1) hx hb dX4_isPossible_30 (by decide) ?_
              refine lv_goto (tgt := 35) hx hb dX4_isPossible_31 (by decide) ?_
              exact ct_iret hx hb hr rfl hlocks hK hw dX4_isPossible_35 (Nat.le_of_ble_eq_true rfl) (Nat.le_of_ble_eq_true rfl) ⟨rfl, Or.inl ⟨⟨hq_4, hq_14, hq_24⟩, rfl⟩⟩
          · skip
            refine lv_if_eq (tgt := 34) hx hb dX4_isPossible_27 (by decide) (fun c_27 => ?_) (fun c_27 => ?_)
            · skip
              refine lv_iconst (v := 0) hx hb dX4_isPossible_34 (by decide) ?_
              exact ct_iret hx hb hr rfl hlocks hK hw dX4_isPossible_35 (Nat.le_of_ble_eq_true rfl) (Nat.le_of_ble_eq_true rfl) ⟨rfl, Or.inr ⟨fun h => hq_24 h.2.2, rfl⟩⟩
            · exact absurd rfl c_27
      · skip
        refine lv_if_eq (tgt := 34) hx hb dX4_isPossible_17 (by decide) (fun c_17 => ?_) (fun c_17 => ?_)
        · skip
          refine lv_iconst (v := 0) hx hb dX4_isPossible_34 (by decide) ?_
          exact ct_iret hx hb hr rfl hlocks hK hw dX4_isPossible_35 (Nat.le_of_ble_eq_true rfl) (Nat.le_of_ble_eq_true rfl) ⟨rfl, Or.inr ⟨fun h => hq_14 h.2.1, rfl⟩⟩
        · exact absurd rfl c_17
  · skip
    refine lv_if_eq (tgt := 34) hx hb dX4_isPossible_7 (by decide) (fun c_7 => ?_) (fun c_7 => ?_)
    · skip
      refine lv_iconst (v := 0) hx hb dX4_isPossible_34 (by decide) ?_
      exact ct_iret hx hb hr rfl hlocks hK hw dX4_isPossible_35 (Nat.le_of_ble_eq_true rfl) (Nat.le_of_ble_eq_true rfl) ⟨rfl, Or.inr ⟨fun h => hq_4 h.1, rfl⟩⟩
    · exact absurd rfl c_7

set_option maxHeartbeats 4000000 in
set_option maxRecDepth 100000 in
theorem c_X4_hindranceBetween (l : Launch) (G : va_G) (Y : Nat → ClassId) (h : PH) (o v1 so1 : Nat) (s1 : Int32) (b v2 so2 : Nat) (s2 : Int32) (f_o : pAt h o (oBook s1 v1 so1)) (f_b : pAt h b (oBook s2 v2 so2))  : ctI l G Y pw yX4_hindranceBetween wsX4_hindranceBetween ({ frames := 2, cells := 0, slots := 0, locals := 60 }) [.ref o, .ref b] h (fun r h' => h' = h ∧ r = cHin s1 s2) := by
  refine ctI.of (cc := cX4_hindranceBetween) (maxL := 2) (ret := (some .int)) (by decide +kernel) rfl (Nat.le_of_ble_eq_true rfl) ?_
  intro A p e s m below meth c ls hB
  obtain ⟨F, hr, hlocks, hnm, hK, hA, hw, hl⟩ := hB
  obtain ⟨hx, hb, hml, hown, hts⟩ := id F
  have hl : lv_has ls 2 [(0, .ref o), (1, .ref b)] := hl
  have hi0 : ∀ w ∈ wsX00, w ∈ wsX4_hindranceBetween := by decide +kernel
  have hl58 : Cond.fieldLink RX4 58 "Scriptorium$Book" "script" "I" ∈ wsX4_hindranceBetween := by decide +kernel
  refine lv_aload_n hx hb dX4_hindranceBetween_0 rfl (lv_at hl 0 rfl) ?_
  refine p_get (ci := 0) (C := RX0) (T := TX0) (N := 3) 0 F rfl hi0 hl58 (by decide) hK hw f_o rfl dX4_hindranceBetween_1 ?_
  refine lv_iconst (v := -1) hx hb dX4_hindranceBetween_4 (by decide) ?_
  refine lv_icmp_eq (tgt := 16) hx hb dX4_hindranceBetween_5 (by decide) (fun c_5 => ?_) (fun c_5 => ?_)
  · skip
    refine lv_iconst (v := -1) hx hb dX4_hindranceBetween_16 (by decide) ?_
    exact ct_iret hx hb hr (vp_nar_int _) hlocks hK hw dX4_hindranceBetween_17 (Nat.le_of_ble_eq_true rfl) (Nat.le_of_ble_eq_true rfl) ⟨rfl, by unfold cHin; rw [if_pos (Or.inl c_5)]⟩
  · skip
    refine lv_aload_n hx hb dX4_hindranceBetween_8 rfl (lv_at hl 1 rfl) ?_
    refine p_get (ci := 0) (C := RX0) (T := TX0) (N := 3) 0 F rfl hi0 hl58 (by decide) hK hw f_b rfl dX4_hindranceBetween_9 ?_
    refine lv_iconst (v := -1) hx hb dX4_hindranceBetween_12 (by decide) ?_
    refine lv_icmp_ne (tgt := 18) hx hb dX4_hindranceBetween_13 (by decide) (fun c_13 => ?_) (fun c_13 => ?_)
    · skip
      refine lv_aload_n hx hb dX4_hindranceBetween_18 rfl (lv_at hl 0 rfl) ?_
      refine lv_aload_n hx hb dX4_hindranceBetween_19 rfl (lv_at hl 1 rfl) ?_
      refine (c_X0_isAlike l G Y _ _ _ _ _ _ _ _ _ f_o f_b).callV F (cwV 1 hts gX4_hindranceBetween_X0_isAlike rfl rfl rfl (by decide +kernel) ⟨Nat.le_of_ble_eq_true rfl, Nat.le_of_ble_eq_true rfl⟩) hK hw hA (p_recv hK hw f_o rfl) rfl rfl hl.1 (Nat.le_of_ble_eq_true rfl) dX4_hindranceBetween_20 ⟨Nat.le_of_ble_eq_true rfl, Nat.le_of_ble_eq_true rfl⟩ (fun r_20 h_20 H locs hp_20 hw => ?_)
      obtain ⟨eh_20, hp_20⟩ := hp_20
      rw [eh_20] at hw
      rcases hp_20 with ⟨hq_20, rfl⟩ | ⟨hq_20, rfl⟩
      · skip
        refine lv_if_eq (tgt := 30) hx hb dX4_hindranceBetween_23 (by decide) (fun c_23 => ?_) (fun c_23 => ?_)
        · exact absurd c_23 (by decide)
        · skip
          refine lv_iconst (v := 0) hx hb dX4_hindranceBetween_26 (by decide) ?_
          refine lv_goto (tgt := 32) hx hb dX4_hindranceBetween_27 (by decide) ?_
          exact ct_iret hx hb hr (vp_nar_int _) hlocks hK hw dX4_hindranceBetween_32 (Nat.le_of_ble_eq_true rfl) (Nat.le_of_ble_eq_true rfl) ⟨rfl, by unfold cHin; rw [if_neg (fun q => q.elim c_5 c_13), if_pos hq_20]⟩
      · skip
        refine lv_if_eq (tgt := 30) hx hb dX4_hindranceBetween_23 (by decide) (fun c_23 => ?_) (fun c_23 => ?_)
        · skip
          refine lv_bipush (v := -2) hx hb dX4_hindranceBetween_30 (by decide) ?_
          exact ct_iret hx hb hr (vp_nar_int _) hlocks hK hw dX4_hindranceBetween_32 (Nat.le_of_ble_eq_true rfl) (Nat.le_of_ble_eq_true rfl) ⟨rfl, by unfold cHin; rw [if_neg (fun q => q.elim c_5 c_13), if_neg hq_20]⟩
        · exact absurd rfl c_23
    · skip
      refine lv_iconst (v := -1) hx hb dX4_hindranceBetween_16 (by decide) ?_
      exact ct_iret hx hb hr (vp_nar_int _) hlocks hK hw dX4_hindranceBetween_17 (Nat.le_of_ble_eq_true rfl) (Nat.le_of_ble_eq_true rfl) ⟨rfl, by unfold cHin; rw [if_pos (Or.inr c_13)]⟩

set_option maxHeartbeats 4000000 in
set_option maxRecDepth 100000 in
theorem c_X4_transcribe (l : Launch) (G : va_G) (Y : Nat → ClassId) (h : PH) (p9 : Nat) (ps pa pi pb pj pn : Int32) (o v1 so1 : Nat) (s1 : Int32) (n1 : Nat) (V1 : Nat → Int64) (T1 : Nat → Int32) (b v2 so2 : Nat) (s2 : Int32) (n2 : Nat) (V2 : Nat → Int64) (T2 : Nat → Int32) (f_p : pAt h p9 (oPas ps pa pi pb pj pn)) (f_o : pAt h o (oBook s1 v1 so1)) (f_ov : pAt h v1 (aJ Y n1 V1)) (f_os : pAt h so1 (aI Y n1 T1)) (f_b : pAt h b (oBook s2 v2 so2)) (f_bv : pAt h v2 (aJ Y n2 V2)) (f_bs : pAt h so2 (aI Y n2 T2)) (hn1 : n1 ≤ 40) (hn2 : n2 ≤ 40) : ctI l G Y pw yX4_transcribe wsX4_transcribe ({ frames := 3, cells := 0, slots := 0, locals := 120 }) [.ref p9, .ref o, .ref b] h (fun r h' => (¬ cHin s1 s2 = 0 ∧ r = cHin s1 s2 ∧ h' = h) ∨ (cHin s1 s2 = 0 ∧ ¬ (cRun n1 pi pn ∧ cRun n2 pj pn) ∧ r = -3 ∧ h' = h) ∨ (cHin s1 s2 = 0 ∧ ∃ ii jj nn st : Nat, pi = nI ii ∧ pj = nI jj ∧ pn = nI nn ∧ ii + nn ≤ n1 ∧ jj + nn ≤ n2 ∧ cStop s2 T1 ii nn st ∧ r = (if st < nn then -10 - nI st else nI nn) ∧ pFr h h' [v2, so2] ∧ pAt h' v2 (aJ Y n2 (va_cpy V1 V2 ii jj st)) ∧ pAt h' so2 (aI Y n2 (va_cpy T1 T2 ii jj st)))) := by
  refine ctI.of (cc := cX4_transcribe) (maxL := 5) (ret := (some .int)) (by decide +kernel) rfl (Nat.le_of_ble_eq_true rfl) ?_
  intro A p e s m below meth c ls hB
  obtain ⟨F, hr, hlocks, hnm, hK, hA, hw, hl⟩ := hB
  obtain ⟨hx, hb, hml, hown, hts⟩ := id F
  have hl : lv_has ls 5 [(0, .ref p9), (1, .ref o), (2, .ref b)] := hl
  have hi2 : ∀ w ∈ wsX20, w ∈ wsX4_transcribe := by decide +kernel
  have hl173 : Cond.fieldLink RX4 173 "Scriptorium$Passage" "n" "I" ∈ wsX4_transcribe := by decide +kernel
  have hl194 : Cond.fieldLink RX4 194 "Scriptorium$Passage" "i" "I" ∈ wsX4_transcribe := by decide +kernel
  have hl201 : Cond.fieldLink RX4 201 "Scriptorium$Passage" "j" "I" ∈ wsX4_transcribe := by decide +kernel
  refine lv_aload_n hx hb dX4_transcribe_0 rfl (lv_at hl 1 rfl) ?_
  refine lv_aload_n hx hb dX4_transcribe_1 rfl (lv_at hl 2 rfl) ?_
  refine (c_X4_hindranceBetween l G Y _ _ _ _ _ _ _ _ _ f_o f_b).callS F (va_cwS 2 hts gX4_transcribe_X4_hindranceBetween rfl rfl rfl (by decide +kernel) ⟨Nat.le_of_ble_eq_true rfl, Nat.le_of_ble_eq_true rfl⟩) hK hw hA rfl rfl hl.1 (Nat.le_of_ble_eq_true rfl) dX4_transcribe_2 ⟨Nat.le_of_ble_eq_true rfl, Nat.le_of_ble_eq_true rfl⟩ (fun r_2 h_2 H locs hp_2 hw => ?_)
  obtain ⟨eh_2, rfl⟩ := hp_2
  rw [eh_2] at hw
  refine lv_istore_n (lv' := [(3, .int _), (0, .ref _), (1, .ref _), (2, .ref _)]) hx hb dX4_transcribe_5 rfl hl (by decide) rfl (fun ls hl => ?_)
  refine lv_iload_n hx hb dX4_transcribe_6 rfl (lv_at hl 0 rfl) ?_
  refine lv_if_eq (tgt := 12) hx hb dX4_transcribe_7 (by decide) (fun c_7 => ?_) (fun c_7 => ?_)
  · skip
    refine lv_aload_n hx hb dX4_transcribe_12 rfl (lv_at hl 2 rfl) ?_
    refine lv_aload_n hx hb dX4_transcribe_13 rfl (lv_at hl 1 rfl) ?_
    refine p_get (ci := 2) (C := RX2) (T := TX2) (N := 6) 2 F rfl hi2 hl194 (by decide) hK hw f_p rfl dX4_transcribe_14 ?_
    refine lv_aload_n hx hb dX4_transcribe_17 rfl (lv_at hl 1 rfl) ?_
    refine p_get (ci := 2) (C := RX2) (T := TX2) (N := 6) 5 F rfl hi2 hl173 (by decide) hK hw f_p rfl dX4_transcribe_18 ?_
    refine (c_X0_hasRun l G Y _ _ _ _ _ _ _ (fun _ => 0) _ _ f_o f_ov).callV F (cwV 2 hts gX4_transcribe_X0_hasRun rfl rfl rfl (by decide +kernel) ⟨Nat.le_of_ble_eq_true rfl, Nat.le_of_ble_eq_true rfl⟩) hK hw hA (p_recv hK hw f_o rfl) rfl rfl hl.1 (Nat.le_of_ble_eq_true rfl) dX4_transcribe_21 ⟨Nat.le_of_ble_eq_true rfl, Nat.le_of_ble_eq_true rfl⟩ (fun r_21 h_21 H locs hp_21 hw => ?_)
    obtain ⟨eh_21, hp_21⟩ := hp_21
    rw [eh_21] at hw
    rcases hp_21 with ⟨hq_21, rfl⟩ | ⟨hq_21, rfl⟩
    · skip
      refine lv_if_eq (tgt := 42) hx hb dX4_transcribe_24 (by decide) (fun c_24 => ?_) (fun c_24 => ?_)
      · exact absurd c_24 (by decide)
      · skip
        refine lv_aload_n hx hb dX4_transcribe_27 rfl (lv_at hl 3 rfl) ?_
        refine lv_aload_n hx hb dX4_transcribe_28 rfl (lv_at hl 1 rfl) ?_
        refine p_get (ci := 2) (C := RX2) (T := TX2) (N := 6) 4 F rfl hi2 hl201 (by decide) hK hw f_p rfl dX4_transcribe_29 ?_
        refine lv_aload_n hx hb dX4_transcribe_32 rfl (lv_at hl 1 rfl) ?_
        refine p_get (ci := 2) (C := RX2) (T := TX2) (N := 6) 5 F rfl hi2 hl173 (by decide) hK hw f_p rfl dX4_transcribe_33 ?_
        refine (c_X0_hasRun l G Y _ _ _ _ _ _ _ (fun _ => 0) _ _ f_b f_bv).callV F (cwV 2 hts gX4_transcribe_X0_hasRun rfl rfl rfl (by decide +kernel) ⟨Nat.le_of_ble_eq_true rfl, Nat.le_of_ble_eq_true rfl⟩) hK hw hA (p_recv hK hw f_b rfl) rfl rfl hl.1 (Nat.le_of_ble_eq_true rfl) dX4_transcribe_36 ⟨Nat.le_of_ble_eq_true rfl, Nat.le_of_ble_eq_true rfl⟩ (fun r_36 h_36 H locs hp_36 hw => ?_)
        obtain ⟨eh_36, hp_36⟩ := hp_36
        rw [eh_36] at hw
        rcases hp_36 with ⟨hq_36, rfl⟩ | ⟨hq_36, rfl⟩
        · skip
          refine lv_if_ne (tgt := 45) hx hb dX4_transcribe_39 (by decide) (fun c_39 => ?_) (fun c_39 => ?_)
          · skip
            obtain ⟨ii, nn, rfl, rfl, hb1⟩ := cRun_nat hn1 hq_21
            obtain ⟨jj, nn', rfl, e9, hb2⟩ := cRun_nat hn2 hq_36
            obtain rfl : nn = nn' := (nI_eq (by omega) (by omega)).mp e9
            refine lv_aload_n hx hb dX4_transcribe_45 rfl (lv_at hl 3 rfl) ?_
            refine lv_aload_n hx hb dX4_transcribe_46 rfl (lv_at hl 2 rfl) ?_
            refine lv_aload_n hx hb dX4_transcribe_47 rfl (lv_at hl 1 rfl) ?_
            refine p_get (ci := 2) (C := RX2) (T := TX2) (N := 6) 2 F rfl hi2 hl194 (by decide) hK hw f_p rfl dX4_transcribe_48 ?_
            refine lv_aload_n hx hb dX4_transcribe_51 rfl (lv_at hl 1 rfl) ?_
            refine p_get (ci := 2) (C := RX2) (T := TX2) (N := 6) 5 F rfl hi2 hl173 (by decide) hK hw f_p rfl dX4_transcribe_52 ?_
            refine (c_X0_fittingOf l G Y _ _ _ _ _ _ _ _ _ _ _ _ _ f_b f_o f_os hb1 hn1).callV F (cwV 3 hts gX4_transcribe_X0_fittingOf rfl rfl rfl (by decide +kernel) ⟨Nat.le_of_ble_eq_true rfl, Nat.le_of_ble_eq_true rfl⟩) hK hw hA (p_recv hK hw f_b rfl) rfl rfl hl.1 (Nat.le_of_ble_eq_true rfl) dX4_transcribe_55 ⟨Nat.le_of_ble_eq_true rfl, Nat.le_of_ble_eq_true rfl⟩ (fun r_55 h_55 H locs hp_55 hw => ?_)
            obtain ⟨eh_55, st, hst, rfl⟩ := hp_55
            rw [eh_55] at hw
            have hst1 := hst.1
            have f_bv0 := f_bv
            have f_bs0 := f_bs
            refine lv_istore (lv' := [(4, .int _), (3, .int _), (0, .ref _), (1, .ref _), (2, .ref _)]) hx hb dX4_transcribe_58 hl (by decide) rfl (fun ls hl => ?_)
            refine lv_aload_n hx hb dX4_transcribe_60 rfl (lv_at hl 4 rfl) ?_
            refine lv_aload_n hx hb dX4_transcribe_61 rfl (lv_at hl 3 rfl) ?_
            refine lv_aload_n hx hb dX4_transcribe_62 rfl (lv_at hl 2 rfl) ?_
            refine p_get (ci := 2) (C := RX2) (T := TX2) (N := 6) 2 F rfl hi2 hl194 (by decide) hK hw f_p rfl dX4_transcribe_63 ?_
            refine lv_aload_n hx hb dX4_transcribe_66 rfl (lv_at hl 2 rfl) ?_
            refine p_get (ci := 2) (C := RX2) (T := TX2) (N := 6) 4 F rfl hi2 hl201 (by decide) hK hw f_p rfl dX4_transcribe_67 ?_
            refine lv_iload hx hb dX4_transcribe_70 (lv_at hl 0 rfl) ?_
            refine (c_X0_take l G Y _ _ _ _ _ _ _ _ _ _ _ _ _ _ _ ii jj st f_b f_bv f_bs f_o f_ov f_os (by omega) (by omega) hn1 hn2).callV F (cwV 4 hts gX4_transcribe_X0_take rfl rfl rfl (by decide +kernel) ⟨Nat.le_of_ble_eq_true rfl, Nat.le_of_ble_eq_true rfl⟩) hK hw hA (p_recv hK hw f_b rfl) rfl rfl hl.1 (Nat.le_of_ble_eq_true rfl) dX4_transcribe_72 ⟨Nat.le_of_ble_eq_true rfl, Nat.le_of_ble_eq_true rfl⟩ (fun h_72 H locs hp_72 hw => ?_)
            obtain ⟨frT, f_bv, f_bs⟩ := hp_72
            have f_p := frT _ _ (nin2 (f_p.kinds f_bv0 (by simp)) (f_p.kinds f_bs0 (by simp))) f_p
            refine lv_iload hx hb dX4_transcribe_75 (lv_at hl 0 rfl) ?_
            refine lv_aload_n hx hb dX4_transcribe_77 rfl (lv_at hl 2 rfl) ?_
            refine p_get (ci := 2) (C := RX2) (T := TX2) (N := 6) 5 F rfl hi2 hl173 (by decide) hK hw f_p rfl dX4_transcribe_78 ?_
            refine lv_icmp_ge (tgt := 92) hx hb dX4_transcribe_81 (by decide) (fun c_81 => ?_) (fun c_81 => ?_)
            · skip
              refine lv_aload_n hx hb dX4_transcribe_92 rfl (lv_at hl 2 rfl) ?_
              refine p_get (ci := 2) (C := RX2) (T := TX2) (N := 6) 5 F rfl hi2 hl173 (by decide) hK hw f_p rfl dX4_transcribe_93 ?_
              exact ct_iret hx hb hr (vp_nar_int _) hlocks hK hw dX4_transcribe_96 (Nat.le_of_ble_eq_true rfl) (Nat.le_of_ble_eq_true rfl) (Or.inr (Or.inr ⟨c_7, ii, jj, nn, st, rfl, rfl, rfl, hb1, hb2, hst, by rw [if_neg (by have := le_of_c (by omega) (by omega) c_81; omega)], frT, f_bv, f_bs⟩))
            · skip
              refine lv_bipush (v := -10) hx hb dX4_transcribe_84 (by decide) ?_
              refine lv_iload hx hb dX4_transcribe_86 (lv_at hl 0 rfl) ?_
              refine lv_isub hx hb dX4_transcribe_88 ?_
              refine lv_goto (tgt := 96) hx hb dX4_transcribe_89 (by decide) ?_
              exact ct_iret hx hb hr (vp_nar_int _) hlocks hK hw dX4_transcribe_96 (Nat.le_of_ble_eq_true rfl) (Nat.le_of_ble_eq_true rfl) (Or.inr (Or.inr ⟨c_7, ii, jj, nn, st, rfl, rfl, rfl, hb1, hb2, hst, by rw [if_pos (lt_of_c (by omega) (by omega) c_81)], frT, f_bv, f_bs⟩))
          · exact absurd c_39 (by decide)
        · skip
          refine lv_if_ne (tgt := 45) hx hb dX4_transcribe_39 (by decide) (fun c_39 => ?_) (fun c_39 => ?_)
          · exact absurd rfl c_39
          · skip
            refine lv_bipush (v := -3) hx hb dX4_transcribe_42 (by decide) ?_
            exact ct_iret hx hb hr (vp_nar_int _) hlocks hK hw dX4_transcribe_44 (Nat.le_of_ble_eq_true rfl) (Nat.le_of_ble_eq_true rfl) (Or.inr (Or.inl ⟨c_7, fun q => hq_36 q.2, rfl, rfl⟩))
    · skip
      refine lv_if_eq (tgt := 42) hx hb dX4_transcribe_24 (by decide) (fun c_24 => ?_) (fun c_24 => ?_)
      · skip
        refine lv_bipush (v := -3) hx hb dX4_transcribe_42 (by decide) ?_
        exact ct_iret hx hb hr (vp_nar_int _) hlocks hK hw dX4_transcribe_44 (Nat.le_of_ble_eq_true rfl) (Nat.le_of_ble_eq_true rfl) (Or.inr (Or.inl ⟨c_7, fun q => hq_21 q.1, rfl, rfl⟩))
      · exact absurd rfl c_24
  · skip
    refine lv_iload_n hx hb dX4_transcribe_10 rfl (lv_at hl 0 rfl) ?_
    exact ct_iret hx hb hr (vp_nar_int _) hlocks hK hw dX4_transcribe_11 (Nat.le_of_ble_eq_true rfl) (Nat.le_of_ble_eq_true rfl) (Or.inl ⟨c_7, rfl, rfl⟩)

set_option maxHeartbeats 4000000 in
set_option maxRecDepth 100000 in
theorem c_X4_firstDifference (l : Launch) (G : va_G) (Y : Nat → ClassId) (h : PH)  (o v1 so1 : Nat) (s1 : Int32) (n1 : Nat) (V1 : Nat → Int64) (T1 : Nat → Int32) (b v2 so2 : Nat) (s2 : Int32) (n2 : Nat) (V2 : Nat → Int64) (T2 : Nat → Int32)  (f_o : pAt h o (oBook s1 v1 so1)) (f_ov : pAt h v1 (aJ Y n1 V1)) (f_os : pAt h so1 (aI Y n1 T1)) (f_b : pAt h b (oBook s2 v2 so2)) (f_bv : pAt h v2 (aJ Y n2 V2)) (f_bs : pAt h so2 (aI Y n2 T2)) (hn1 : n1 ≤ 40) (hn2 : n2 ≤ 40) : ctI l G Y pw yX4_firstDifference wsX4_firstDifference ({ frames := 1, cells := 0, slots := 0, locals := 60 }) [.ref o, .ref b] h (fun r h' => h' = h ∧ cDiff n1 n2 V1 V2 T1 T2 r) := by
  refine ctI.of (cc := cX4_firstDifference) (maxL := 4) (ret := (some .int)) (by decide +kernel) rfl (Nat.le_of_ble_eq_true rfl) ?_
  intro A p e s m below meth c ls hB
  obtain ⟨F, hr, hlocks, hnm, hK, hA, hw, hl⟩ := hB
  obtain ⟨hx, hb, hml, hown, hts⟩ := id F
  have hl : lv_has ls 4 [(0, .ref o), (1, .ref b)] := hl
  have hi0 : ∀ w ∈ wsX00, w ∈ wsX4_firstDifference := by decide +kernel
  have hl69 : Cond.fieldLink RX4 69 "Scriptorium$Book" "values" "[J" ∈ wsX4_firstDifference := by decide +kernel
  have hl216 : Cond.fieldLink RX4 216 "Scriptorium$Book" "sorts" "[I" ∈ wsX4_firstDifference := by decide +kernel
  refine lv_aload_n hx hb dX4_firstDifference_0 rfl (lv_at hl 0 rfl) ?_
  refine (c_X0_length l G Y _ _ _ _ _ _ _ (fun _ => 0) f_o f_ov).callV F (cwV 0 hts gX4_firstDifference_X0_length rfl rfl rfl (by decide +kernel) ⟨Nat.le_of_ble_eq_true rfl, Nat.le_of_ble_eq_true rfl⟩) hK hw hA (p_recv hK hw f_o rfl) rfl rfl hl.1 (Nat.le_of_ble_eq_true rfl) dX4_firstDifference_1 ⟨Nat.le_of_ble_eq_true rfl, Nat.le_of_ble_eq_true rfl⟩ (fun r_1 h_1 H locs hp_1 hw => ?_)
  obtain ⟨eh_1, rfl⟩ := hp_1
  rw [eh_1] at hw
  refine lv_aload_n hx hb dX4_firstDifference_4 rfl (lv_at hl 1 rfl) ?_
  refine (c_X0_length l G Y _ _ _ _ _ _ _ (fun _ => 0) f_b f_bv).callV F (cwV 0 hts gX4_firstDifference_X0_length rfl rfl rfl (by decide +kernel) ⟨Nat.le_of_ble_eq_true rfl, Nat.le_of_ble_eq_true rfl⟩) hK hw hA (p_recv hK hw f_b rfl) rfl rfl hl.1 (Nat.le_of_ble_eq_true rfl) dX4_firstDifference_5 ⟨Nat.le_of_ble_eq_true rfl, Nat.le_of_ble_eq_true rfl⟩ (fun r_5 h_5 H locs hp_5 hw => ?_)
  obtain ⟨eh_5, rfl⟩ := hp_5
  rw [eh_5] at hw
  refine va_mmin hx hb (hml.trans hl.1.symm) hown (hts (.methodLink RX4 106 Lib.Math.min.name) (by decide +kernel)) (hts (.static Lib.Math.min.name) (by decide +kernel)) (hts (.initialized "java/lang/Math") (by decide +kernel)) (hts (.code Lib.Math.min.name Lib.Math.min.code 2 (some .int)) (by decide +kernel)) (Nat.le_of_ble_eq_true rfl) (Nat.le_of_ble_eq_true rfl) (Nat.le_of_ble_eq_true rfl) (Nat.le_of_ble_eq_true rfl) dX4_firstDifference_8 ?_
  refine lv_topi (fun v9 ev9 => ?_)
  obtain ⟨nm, h9, h8, h7⟩ : ∃ nm : Nat, v9 = nI nm ∧ (nm ≤ n1 ∧ nm ≤ n2) ∧ (nm = n1 ∨ nm = n2) := by
    by_cases q : nI n2 < nI n1
    · rw [if_pos q] at ev9
      have := (nI_ltI (by omega) (by omega)).mp q
      exact ⟨n2, ev9, ⟨by omega, Nat.le_refl _⟩, Or.inr rfl⟩
    · rw [if_neg q] at ev9
      have : ¬ n2 < n1 := fun z => q ((nI_ltI (by omega) (by omega)).mpr z)
      exact ⟨n1, ev9, ⟨Nat.le_refl _, by omega⟩, Or.inl rfl⟩
  subst h9
  refine lv_istore_n (lv' := [(2, .int _), (0, .ref _), (1, .ref _)]) hx hb dX4_firstDifference_11 rfl hl (by decide) rfl (fun ls hl => ?_)
  refine lv_iconst (v := 0) hx hb dX4_firstDifference_12 (by decide) ?_
  refine lv_istore_n (lv' := [(3, .int _), (2, .int _), (0, .ref _), (1, .ref _)]) hx hb dX4_firstDifference_13 rfl hl (by decide) rfl (fun ls hl => ?_)
  refine W_loop (σ := Nat) 14 (fun n (t : Nat) H locs ls => n = nm - t ∧ t ≤ nm ∧ (∀ j, j < t → V1 j = V2 j ∧ T1 j = T2 j) ∧ wW G A s.heap (pw h) H locs ∧ lv_has ls 4 [(3, .int (nI t)), (2, .int (nI nm)), (0, .ref o), (1, .ref b)]) ?_ (n := nm) (x := 0) ⟨rfl, by omega, lt_0, hw, hl⟩
  intro n t H locs ls hI ih
  obtain ⟨hn, ht, hall, hw, hl⟩ := hI
  refine lv_iload_n hx hb dX4_firstDifference_14 rfl (lv_at hl 0 rfl) ?_
  refine lv_iload_n hx hb dX4_firstDifference_15 rfl (lv_at hl 1 rfl) ?_
  refine lv_icmp_ge (tgt := 58) hx hb dX4_firstDifference_16 (by decide) (fun c_16 => ?_) (fun c_16 => ?_)
  · skip
    have htn : t = nm := by
      have := le_of_c (by omega) (by omega) c_16
      omega
    refine lv_aload_n hx hb dX4_firstDifference_58 rfl (lv_at hl 2 rfl) ?_
    refine (c_X0_length l G Y _ _ _ _ _ _ _ (fun _ => 0) f_o f_ov).callV F (cwV 0 hts gX4_firstDifference_X0_length rfl rfl rfl (by decide +kernel) ⟨Nat.le_of_ble_eq_true rfl, Nat.le_of_ble_eq_true rfl⟩) hK hw hA (p_recv hK hw f_o rfl) rfl rfl hl.1 (Nat.le_of_ble_eq_true rfl) dX4_firstDifference_59 ⟨Nat.le_of_ble_eq_true rfl, Nat.le_of_ble_eq_true rfl⟩ (fun r_59 h_59 H locs hp_59 hw => ?_)
    obtain ⟨eh_59, rfl⟩ := hp_59
    rw [eh_59] at hw
    refine lv_aload_n hx hb dX4_firstDifference_62 rfl (lv_at hl 3 rfl) ?_
    refine (c_X0_length l G Y _ _ _ _ _ _ _ (fun _ => 0) f_b f_bv).callV F (cwV 0 hts gX4_firstDifference_X0_length rfl rfl rfl (by decide +kernel) ⟨Nat.le_of_ble_eq_true rfl, Nat.le_of_ble_eq_true rfl⟩) hK hw hA (p_recv hK hw f_b rfl) rfl rfl hl.1 (Nat.le_of_ble_eq_true rfl) dX4_firstDifference_63 ⟨Nat.le_of_ble_eq_true rfl, Nat.le_of_ble_eq_true rfl⟩ (fun r_63 h_63 H locs hp_63 hw => ?_)
    obtain ⟨eh_63, rfl⟩ := hp_63
    rw [eh_63] at hw
    refine lv_icmp_ne (tgt := 74) hx hb dX4_firstDifference_66 (by decide) (fun c_66 => ?_) (fun c_66 => ?_)
    · skip
      refine lv_iload_n hx hb dX4_firstDifference_74 rfl (lv_at hl 1 rfl) ?_
      exact ct_iret hx hb hr (vp_nar_int _) hlocks hK hw dX4_firstDifference_75 (Nat.le_of_ble_eq_true rfl) (Nat.le_of_ble_eq_true rfl) ⟨rfl, Or.inr ⟨fun j h1 h2 => hall j (by omega), by
          have q : n1 ≠ n2 := fun q => c_66 (by rw [q])
          rcases h7 with rfl | rfl
          · exact Or.inr (Or.inl ⟨by omega, rfl⟩)
          · exact Or.inr (Or.inr ⟨by omega, rfl⟩)⟩⟩
    · skip
      refine lv_bipush (v := -60) hx hb dX4_firstDifference_69 (by decide) ?_
      refine lv_goto (tgt := 75) hx hb dX4_firstDifference_71 (by decide) ?_
      exact ct_iret hx hb hr (vp_nar_int _) hlocks hK hw dX4_firstDifference_75 (Nat.le_of_ble_eq_true rfl) (Nat.le_of_ble_eq_true rfl) ⟨rfl, Or.inr ⟨fun j h1 h2 => hall j (by omega), Or.inl ⟨(nI_eq (by omega) (by omega)).mp c_66, rfl⟩⟩⟩
  · skip
    have htn : t < nm := lt_of_c (by omega) (by omega) c_16
    have ect : cl (nI t) = t := cl_nI (by omega)
    refine lv_aload_n hx hb dX4_firstDifference_19 rfl (lv_at hl 2 rfl) ?_
    refine p_get (ci := 0) (C := RX0) (T := TX0) (N := 3) 1 F rfl hi0 hl69 (by decide) hK hw f_o rfl dX4_firstDifference_20 ?_
    refine lv_iload_n hx hb dX4_firstDifference_23 rfl (lv_at hl 0 rfl) ?_
    refine p_ldJ F hK hw f_ov (vp_in_nI (show t < n1 by omega) (by omega)) dX4_firstDifference_24 ?_
    refine lv_aload_n hx hb dX4_firstDifference_25 rfl (lv_at hl 3 rfl) ?_
    refine p_get (ci := 0) (C := RX0) (T := TX0) (N := 3) 1 F rfl hi0 hl69 (by decide) hK hw f_b rfl dX4_firstDifference_26 ?_
    refine lv_iload_n hx hb dX4_firstDifference_29 rfl (lv_at hl 0 rfl) ?_
    refine p_ldJ F hK hw f_bv (vp_in_nI (show t < n2 by omega) (by omega)) dX4_firstDifference_30 ?_
    rw [ect]
    refine W.lcmp hx hb dX4_firstDifference_31 ?_
    refine lv_if_ne (tgt := 50) hx hb dX4_firstDifference_32 (by decide) (fun c_32 => ?_) (fun c_32 => ?_)
    · skip
      refine lv_iload_n hx hb dX4_firstDifference_50 rfl (lv_at hl 0 rfl) ?_
      exact ct_iret hx hb hr (vp_nar_int _) hlocks hK hw dX4_firstDifference_51 (Nat.le_of_ble_eq_true rfl) (Nat.le_of_ble_eq_true rfl) ⟨rfl, Or.inl ⟨t, by omega, by omega, hall, fun q => c_32 (lcmp0.mpr q.1), rfl⟩⟩
    · skip
      refine lv_aload_n hx hb dX4_firstDifference_35 rfl (lv_at hl 2 rfl) ?_
      refine p_get (ci := 0) (C := RX0) (T := TX0) (N := 3) 2 F rfl hi0 hl216 (by decide) hK hw f_o rfl dX4_firstDifference_36 ?_
      refine lv_iload_n hx hb dX4_firstDifference_39 rfl (lv_at hl 0 rfl) ?_
      refine p_ildI F hK hw f_os (vp_in_nI (show t < n1 by omega) (by omega)) dX4_firstDifference_40 ?_
      refine lv_aload_n hx hb dX4_firstDifference_41 rfl (lv_at hl 3 rfl) ?_
      refine p_get (ci := 0) (C := RX0) (T := TX0) (N := 3) 2 F rfl hi0 hl216 (by decide) hK hw f_b rfl dX4_firstDifference_42 ?_
      refine lv_iload_n hx hb dX4_firstDifference_45 rfl (lv_at hl 0 rfl) ?_
      refine p_ildI F hK hw f_bs (vp_in_nI (show t < n2 by omega) (by omega)) dX4_firstDifference_46 ?_
      rw [ect]
      refine lv_icmp_eq (tgt := 52) hx hb dX4_firstDifference_47 (by decide) (fun c_47 => ?_) (fun c_47 => ?_)
      · skip
        refine lv_iinc (lv' := [(3, .int _), (2, .int _), (0, .ref _), (1, .ref _)]) hx hb dX4_firstDifference_52 hl (k := 0) rfl rfl (by decide) rfl (fun ls hl => ?_)
        refine lv_goto (tgt := 14) hx hb dX4_firstDifference_55 (by decide) ?_
        exact ih _ (t + 1) _ _ _ (by omega) ⟨rfl, by omega, lt_s hall ⟨lcmp0.mp c_32, c_47⟩, hw, by rw [nI_succ]; exact hl⟩
      · skip
        refine lv_iload_n hx hb dX4_firstDifference_50 rfl (lv_at hl 0 rfl) ?_
        exact ct_iret hx hb hr (vp_nar_int _) hlocks hK hw dX4_firstDifference_51 (Nat.le_of_ble_eq_true rfl) (Nat.le_of_ble_eq_true rfl) ⟨rfl, Or.inl ⟨t, by omega, by omega, hall, fun q => c_47 q.2, rfl⟩⟩
end
