/-! the class's world: a pure heap (addresses, and what lies at each) -/
abbrev PH : Type := List Nat × (Nat → va_E)
def pw (h : PH) : va_W := va_pl h.1 h.2
def pAt (h : PH) (a : Nat) (e : va_E) : Prop := a ∈ h.1 ∧ h.2 a = e
def pSet (h : PH) (a : Nat) (e : va_E) : PH := (h.1, va_up h.2 a e)
def pNew (h : PH) (a : Nat) (e : va_E) : PH := (h.1 ++ [a], va_up h.2 a e)
theorem pAt.same {h : PH} {a : Nat} {e e' : va_E} (H : pAt h a e) : pAt (pSet h a e') a e' := ⟨H.1, by simp [pSet, va_up]⟩
theorem pAt.ne {h : PH} {a b : Nat} {e e' : va_E} (H : pAt h b e) (n : b ≠ a) : pAt (pSet h a e') b e := ⟨H.1, by simp [pSet, va_up, n]; exact H.2⟩
theorem pAt.old {h : PH} {a b : Nat} {e e' : va_E} (H : pAt h b e) (n : a ∉ h.1) : pAt (pNew h a e') b e := ⟨List.mem_append_left _ H.1, by
  have hn : b ≠ a := fun q => n (q ▸ H.1)
  simp [pNew, va_up, hn]; exact H.2⟩
theorem pAt.new {h : PH} {a : Nat} {e : va_E} : pAt (pNew h a e) a e := ⟨List.mem_append_right _ (List.mem_singleton.mpr rfl), by simp [pNew, va_up]⟩
theorem pAt.apart {h : PH} {a b : Nat} {e e' : va_E} (H : pAt h a e) (H' : pAt h b e') (n : e ≠ e') : a ≠ b := fun q => n (by rw [← H.2, ← H'.2, q])
theorem pAt.get {h : PH} {a : Nat} {e : va_E} (H : pAt h a e) : ∃ k : Nat, (pw h)[k]? = some (a, e) := by
  obtain ⟨k, hk⟩ := va_pl_get (X := []) (f := h.2) H.1
  exact ⟨k, by rw [← H.2]; exact hk⟩
theorem pw_set {A : Nat → Prop} {h : PH} {a k : Nat} {e0 e : va_E} (hD : va_D A (pw h)) (H : pAt h a e0) (hk : (pw h)[k]? = some (a, e0)) : (pw h).set k (a, e) = pw (pSet h a e) := by
  have := va_pl_set (X := []) (e := e) (L := h.1) (f := h.2) (a := a) (k := k) hD H.1 (by rw [H.2]; exact hk)
  exact this
theorem pw_fresh {A : Nat → Prop} {h : PH} {q : Nat} {e : va_E} (hD : va_D A (pw h ++ [(q, e)])) : q ∉ h.1 := va_pl_fresh2 (X := []) hD
theorem pw_push {h : PH} {q : Nat} {e : va_E} (hq : q ∉ h.1) : pw h ++ [(q, e)] = pw (pNew h q e) := va_pl_push hq
abbrev oBook (sc : Int32) (v so : Nat) : va_E := .inr (0, [.int sc, .ref v, .ref so])
abbrev oChr (a b c d : Nat) (nx he : Int32) : va_E := .inr (1, [.ref a, .ref b, .ref c, .ref d, .int nx, .int he])
abbrev oPas (s a i b j n : Int32) : va_E := .inr (2, [.int s, .int a, .int i, .int b, .int j, .int n])
abbrev oScr (ink cop wai : Int32) (od : Nat) : va_E := .inr (3, [.int ink, .int cop, .int wai, .ref od])
abbrev oX (no ro de sc la ta : Nat) : va_E := .inr (4, [.ref no, .ref ro, .ref de, .ref sc, .ref la, .ref ta])
section PHR
variable {p : Program} {l : Launch} {e : Env} {R : Room} {s : State} {m : MethodId} {args : Array Value} {below : List Frame} {meth : Method} {c : Code} {H : Heap} {locs : List Loc} {cells slots nL : Nat} {Q : State → Prop} {cc : ByteArray} {pc : Nat} {ls : Array Slot} {G : va_G} {Y : Nat → ClassId} {A : Nat → Prop} {Ts : List Cond} {rest : List Value} {h : PH} {a : Nat} {own C : String} {T : u_T} {N ci index n : Nat} {fs fs' : List Value} {v : Value} {i : Int32}
theorem p_recv (hK : kK G Y s) (hw : wW G A s.heap (pw h) H locs) (ha : pAt h a (.inr (ci, fs))) (hc : vwCl[ci]? = some (C, T, N)) : ∃ cell : Cell, H[a]? = some cell ∧ cell.vm.isStatics = false ∧ s.vm.findClass C = some cell.cls := by
  obtain ⟨k, hk⟩ := ha.get
  exact va_recv hK.1 hw.1 (q := (C, T, N)) hc hk
theorem p_get (k : Nat) (F : CallFix p m c cc nL s args Ts own) (hc : vwCl[ci]? = some (C, T, N)) (hi : ∀ w ∈ u_ws C T N, w ∈ Ts) (hl : Cond.fieldLink own index (T k).1 (T k).2.1 (T k).2.2.1 ∈ Ts) (hk : k < N) (hK : kK G Y s) (hw : wW G A s.heap (pw h) H locs) (ha : pAt h a (.inr (ci, fs))) (hv : fs[k]? = some v) (hdg : decode cc pc = .ok (.getfield index, 3))
    (kk : W p l e R s m args below meth c H locs cells slots Q (F0 m (pc + 3) ls (v :: rest))) : W p l e R s m args below meth c H locs cells slots Q (F0 m pc ls (.ref a :: rest)) := by
  obtain ⟨q0, hq⟩ := ha.get
  exact va_get (D := G) (C := C) (T := T) (N := N) F.1 F.2.1 F.2.2.2.2 hi F.2.2.2.1 hK.1 hw.1 q0 hq hc k hk (F.2.2.2.2 _ hl) (fun _ h9 => h9) hv hdg kk
theorem p_put (k : Nat) {ty0 : Nat → FieldType} {ty : FieldType} (F : CallFix p m c cc nL s args Ts own) (hc : vwCl[ci]? = some (C, T, N)) (hi : ∀ w ∈ u_ws C T N, w ∈ Ts) (hty : ∀ k, k < N → parseFieldDescriptor (T k).2.2.1 = some (ty0 k)) (hnm : ∀ a, a < N → ∀ b, b < N → a ≠ b → (T a).2.1 ≠ (T b).2.1) (hl : Cond.fieldLink own index (T k).1 (T k).2.1 (T k).2.2.1 ∈ Ts) (hk : k < N) (hfin : (T k).2.2.2 = false) (hd : parseFieldDescriptor (T k).2.2.1 = some ty) (hn : narrow ty v = v) (hfit : fits ty v = true) (hlen : k < fs.length)
    (hK : kK G Y s) (hw : wW G A s.heap (pw h) H locs) (ha : pAt h a (.inr (ci, fs))) (hfs : fs.set k v = fs') (hdg : decode cc pc = .ok (.putfield index, 3))
    (kk : ∀ (H1 : Heap) (locs1 : List Loc), wW G A s.heap (pw (pSet h a (.inr (ci, fs')))) H1 locs1 → W p l e R s m args below meth c H1 locs1 cells slots Q (F0 m (pc + 3) ls rest)) : W p l e R s m args below meth c H locs cells slots Q (F0 m pc ls (v :: .ref a :: rest)) := by
  obtain ⟨q0, hq⟩ := ha.get
  subst hfs
  refine va_put (D := G) (C := C) (T := T) (N := N) F.1 F.2.1 F.2.2.2.2 hi ty0 hty hnm F.2.2.2.1 hK.1 hw.1 hw.2.1 hw.2.2 q0 hq hc k hk (F.2.2.2.2 _ hl) (fun _ h9 => h9) hfin hd hn hfit hlen hdg (fun H1 locs1 hP hD hS => ?_)
  rw [pw_set hw.2.1 ha hq] at hP hD
  exact kk H1 locs1 ⟨hP, hD, hS⟩
theorem p_putF (k : Nat) {ty0 : Nat → FieldType} {ty : FieldType} (F : CallFix p m c cc nL s args Ts own) (hc : vwCl[ci]? = some (C, T, N)) (hi : ∀ w ∈ u_ws C T N, w ∈ Ts) (hty : ∀ k, k < N → parseFieldDescriptor (T k).2.2.1 = some (ty0 k)) (hnm : ∀ a, a < N → ∀ b, b < N → a ≠ b → (T a).2.1 ≠ (T b).2.1) (hl : Cond.fieldLink own index (T k).1 (T k).2.1 (T k).2.2.1 ∈ Ts) (hk : k < N) (hfin : (T k).2.2.2 = true) (hin2 : meth.name = "<init>") (hdecl : (T k).1 = own) (hd : parseFieldDescriptor (T k).2.2.1 = some ty) (hn : narrow ty v = v) (hfit : fits ty v = true) (hlen : k < fs.length)
    (hK : kK G Y s) (hw : wW G A s.heap (pw h) H locs) (ha : pAt h a (.inr (ci, fs))) (hfs : fs.set k v = fs') (hdg : decode cc pc = .ok (.putfield index, 3))
    (kk : ∀ (H1 : Heap) (locs1 : List Loc), wW G A s.heap (pw (pSet h a (.inr (ci, fs')))) H1 locs1 → W p l e R s m args below meth c H1 locs1 cells slots Q (F0 m (pc + 3) ls rest)) : W p l e R s m args below meth c H locs cells slots Q (F0 m pc ls (v :: .ref a :: rest)) := by
  obtain ⟨q0, hq⟩ := ha.get
  subst hfs
  refine va_putF (D := G) (C := C) (T := T) (N := N) F.1 F.2.1 F.2.2.2.2 hi ty0 hty hnm F.2.2.2.1 hK.1 hw.1 hw.2.1 hw.2.2 q0 hq hc k hk (F.2.2.2.2 _ hl) (fun _ h9 => h9) hfin hin2 hdecl hd hn hfit hlen hdg (fun H1 locs1 hP hD hS => ?_)
  rw [pw_set hw.2.1 ha hq] at hP hD
  exact kk H1 locs1 ⟨hP, hD, hS⟩
theorem p_ildI {f : Nat → Int32} (F : CallFix p m c cc nL s args Ts own) (hK : kK G Y s) (hw : wW G A s.heap (pw h) H locs) (ha : pAt h a (aI Y n f)) (hin : vp_in i n) (hdg : decode cc pc = .ok (.iaload, 1)) (kk : W p l e R s m args below meth c H locs cells slots Q (F0 m (pc + 1) ls (.int (f (cl i)) :: rest))) : W p l e R s m args below meth c H locs cells slots Q (F0 m pc ls (.int i :: .ref a :: rest)) := by
  obtain ⟨q0, hq⟩ := ha.get
  exact va_iald F.1 F.2.1 hK.1 hw.1 q0 0 hq rfl hin hdg kk
theorem p_ldJ {f : Nat → Int64} (F : CallFix p m c cc nL s args Ts own) (hK : kK G Y s) (hw : wW G A s.heap (pw h) H locs) (ha : pAt h a (aJ Y n f)) (hin : vp_in i n) (hdg : decode cc pc = .ok (.laload, 1)) (kk : W p l e R s m args below meth c H locs cells slots Q (F0 m (pc + 1) ls (.long (f (cl i)) :: rest))) : W p l e R s m args below meth c H locs cells slots Q (F0 m pc ls (.int i :: .ref a :: rest)) := by
  obtain ⟨q0, hq⟩ := ha.get
  exact va_lald F.1 F.2.1 hK.1 hw.1 q0 1 hq rfl hin hdg kk
theorem p_ldB {f : Nat → Option Nat} (F : CallFix p m c cc nL s args Ts own) (hK : kK G Y s) (hw : wW G A s.heap (pw h) H locs) (ha : pAt h a (aB Y n f)) (hin : vp_in i n) {b : Nat} (hf : f (cl i) = some b) (hdg : decode cc pc = .ok (.aaload, 1)) (kk : W p l e R s m args below meth c H locs cells slots Q (F0 m (pc + 1) ls (.ref b :: rest))) : W p l e R s m args below meth c H locs cells slots Q (F0 m pc ls (.int i :: .ref a :: rest)) := by
  obtain ⟨q0, hq⟩ := ha.get
  exact va_aldq F.1 F.2.1 hK.1 hw.1 q0 2 hq rfl hin hdg (by rw [show f i.toNatClampNeg = some b from hf]; exact kk)
theorem p_ldP {f : Nat → Option Nat} (F : CallFix p m c cc nL s args Ts own) (hK : kK G Y s) (hw : wW G A s.heap (pw h) H locs) (ha : pAt h a (aP Y n f)) (hin : vp_in i n) (hdg : decode cc pc = .ok (.aaload, 1)) (kk : W p l e R s m args below meth c H locs cells slots Q (F0 m (pc + 1) ls (va_rf (f (cl i)) :: rest))) : W p l e R s m args below meth c H locs cells slots Q (F0 m pc ls (.int i :: .ref a :: rest)) := by
  obtain ⟨q0, hq⟩ := ha.get
  exact va_aldq F.1 F.2.1 hK.1 hw.1 q0 3 hq rfl hin hdg kk
theorem p_ldS {f : Nat → Option Nat} (F : CallFix p m c cc nL s args Ts own) (hK : kK G Y s) (hw : wW G A s.heap (pw h) H locs) (ha : pAt h a (aS Y n f)) (hin : vp_in i n) {b : Nat} (hf : f (cl i) = some b) (hdg : decode cc pc = .ok (.aaload, 1)) (kk : W p l e R s m args below meth c H locs cells slots Q (F0 m (pc + 1) ls (.ref b :: rest))) : W p l e R s m args below meth c H locs cells slots Q (F0 m pc ls (.int i :: .ref a :: rest)) := by
  obtain ⟨q0, hq⟩ := ha.get
  exact va_aldq F.1 F.2.1 hK.1 hw.1 q0 4 hq rfl hin hdg (by rw [show f i.toNatClampNeg = some b from hf]; exact kk)
theorem p_stI {f : Nat → Int32} {x : Int32} (F : CallFix p m c cc nL s args Ts own) (hK : kK G Y s) (hw : wW G A s.heap (pw h) H locs) (ha : pAt h a (aI Y n f)) (hin : vp_in i n) (hdg : decode cc pc = .ok (.iastore, 1)) (kk : ∀ (H1 : Heap) (locs1 : List Loc), wW G A s.heap (pw (pSet h a (aI Y n (upd f (cl i) x)))) H1 locs1 → W p l e R s m args below meth c H1 locs1 cells slots Q (F0 m (pc + 1) ls rest)) : W p l e R s m args below meth c H locs cells slots Q (F0 m pc ls (.int x :: .int i :: .ref a :: rest)) := by
  obtain ⟨q0, hq⟩ := ha.get
  refine va_iast F.1 F.2.1 hK.1 hw.1 hw.2.1 hw.2.2 q0 0 hq rfl hin hdg (fun H1 locs1 hP hD hS => ?_)
  rw [pw_set hw.2.1 ha hq] at hP hD
  exact kk H1 locs1 ⟨hP, hD, hS⟩
theorem p_stJ {f : Nat → Int64} {x : Int64} (F : CallFix p m c cc nL s args Ts own) (hK : kK G Y s) (hw : wW G A s.heap (pw h) H locs) (ha : pAt h a (aJ Y n f)) (hin : vp_in i n) (hdg : decode cc pc = .ok (.lastore, 1)) (kk : ∀ (H1 : Heap) (locs1 : List Loc), wW G A s.heap (pw (pSet h a (aJ Y n (vp_updL f (cl i) x)))) H1 locs1 → W p l e R s m args below meth c H1 locs1 cells slots Q (F0 m (pc + 1) ls rest)) : W p l e R s m args below meth c H locs cells slots Q (F0 m pc ls (.long x :: .int i :: .ref a :: rest)) := by
  obtain ⟨q0, hq⟩ := ha.get
  refine va_last F.1 F.2.1 hK.1 hw.1 hw.2.1 hw.2.2 q0 1 hq rfl hin hdg (fun H1 locs1 hP hD hS => ?_)
  rw [pw_set hw.2.1 ha hq] at hP hD
  exact kk H1 locs1 ⟨hP, hD, hS⟩
theorem p_stB {f : Nat → Option Nat} {b : Nat} (F : CallFix p m c cc nL s args Ts own) (hK : kK G Y s) (hw : wW G A s.heap (pw h) H locs) (ha : pAt h a (aB Y n f)) (hb9 : pAt h b (.inr (0, fs))) (hin : vp_in i n) (hdg : decode cc pc = .ok (.aastore, 1)) (kk : ∀ (H1 : Heap) (locs1 : List Loc), wW G A s.heap (pw (pSet h a (aB Y n (va_up f (cl i) (some b))))) H1 locs1 → W p l e R s m args below meth c H1 locs1 cells slots Q (F0 m (pc + 1) ls rest)) : W p l e R s m args below meth c H locs cells slots Q (F0 m pc ls (.ref b :: .int i :: .ref a :: rest)) := by
  obtain ⟨q0, hq⟩ := ha.get
  obtain ⟨q1, hq1⟩ := hb9.get
  refine va_astq (r := (RX0, TX0, 3)) F.1 F.2.1 hK.1 hw.1 hw.2.1 hw.2.2 q0 2 q1 0 hq rfl hq1 rfl hin hdg (fun H1 locs1 hP hD hS => ?_)
  rw [pw_set hw.2.1 ha hq] at hP hD
  exact kk H1 locs1 ⟨hP, hD, hS⟩
theorem p_stP {f : Nat → Option Nat} {b : Nat} (F : CallFix p m c cc nL s args Ts own) (hK : kK G Y s) (hw : wW G A s.heap (pw h) H locs) (ha : pAt h a (aP Y n f)) (hb9 : pAt h b (.inr (2, fs))) (hin : vp_in i n) (hdg : decode cc pc = .ok (.aastore, 1)) (kk : ∀ (H1 : Heap) (locs1 : List Loc), wW G A s.heap (pw (pSet h a (aP Y n (va_up f (cl i) (some b))))) H1 locs1 → W p l e R s m args below meth c H1 locs1 cells slots Q (F0 m (pc + 1) ls rest)) : W p l e R s m args below meth c H locs cells slots Q (F0 m pc ls (.ref b :: .int i :: .ref a :: rest)) := by
  obtain ⟨q0, hq⟩ := ha.get
  obtain ⟨q1, hq1⟩ := hb9.get
  refine va_astq (r := (RX2, TX2, 6)) F.1 F.2.1 hK.1 hw.1 hw.2.1 hw.2.2 q0 3 q1 2 hq rfl hq1 rfl hin hdg (fun H1 locs1 hP hD hS => ?_)
  rw [pw_set hw.2.1 ha hq] at hP hD
  exact kk H1 locs1 ⟨hP, hD, hS⟩
theorem p_stPN {f : Nat → Option Nat} (F : CallFix p m c cc nL s args Ts own) (hK : kK G Y s) (hw : wW G A s.heap (pw h) H locs) (ha : pAt h a (aP Y n f)) (hin : vp_in i n) (hdg : decode cc pc = .ok (.aastore, 1)) (kk : ∀ (H1 : Heap) (locs1 : List Loc), wW G A s.heap (pw (pSet h a (aP Y n (va_up f (cl i) none)))) H1 locs1 → W p l e R s m args below meth c H1 locs1 cells slots Q (F0 m (pc + 1) ls rest)) : W p l e R s m args below meth c H locs cells slots Q (F0 m pc ls (.null :: .int i :: .ref a :: rest)) := by
  obtain ⟨q0, hq⟩ := ha.get
  refine va_astqN F.1 F.2.1 hK.1 hw.1 hw.2.1 hw.2.2 q0 3 hq rfl hin hdg (fun H1 locs1 hP hD hS => ?_)
  rw [pw_set hw.2.1 ha hq] at hP hD
  exact kk H1 locs1 ⟨hP, hD, hS⟩
theorem p_stS {f : Nat → Option Nat} {b : Nat} (F : CallFix p m c cc nL s args Ts own) (hK : kK G Y s) (hw : wW G A s.heap (pw h) H locs) (ha : pAt h a (aS Y n f)) (hb9 : pAt h b (.inr (3, fs))) (hin : vp_in i n) (hdg : decode cc pc = .ok (.aastore, 1)) (kk : ∀ (H1 : Heap) (locs1 : List Loc), wW G A s.heap (pw (pSet h a (aS Y n (va_up f (cl i) (some b))))) H1 locs1 → W p l e R s m args below meth c H1 locs1 cells slots Q (F0 m (pc + 1) ls rest)) : W p l e R s m args below meth c H locs cells slots Q (F0 m pc ls (.ref b :: .int i :: .ref a :: rest)) := by
  obtain ⟨q0, hq⟩ := ha.get
  obtain ⟨q1, hq1⟩ := hb9.get
  refine va_astq (r := (RX3, TX3, 4)) F.1 F.2.1 hK.1 hw.1 hw.2.1 hw.2.2 q0 4 q1 3 hq rfl hq1 rfl hin hdg (fun H1 locs1 hP hD hS => ?_)
  rw [pw_set hw.2.1 ha hq] at hP hD
  exact kk H1 locs1 ⟨hP, hD, hS⟩
theorem p_alen {x : vp_A} (t0 : Nat) {cA : ClassId} {ty : FieldType} (F : CallFix p m c cc nL s args Ts own) (hK : kK G Y s) (hw : wW G A s.heap (pw h) H locs) (ha : pAt h a (.inl (cA, x))) (ht : (kT Y)[t0]? = some (cA, ty)) {v : Int32} (hv : Int32.ofNat x.1 = v) (hdg : decode cc pc = .ok (.arraylength, 1)) (kk : W p l e R s m args below meth c H locs cells slots Q (F0 m (pc + 1) ls (.int v :: rest))) : W p l e R s m args below meth c H locs cells slots Q (F0 m pc ls (.ref a :: rest)) := by
  obtain ⟨q0, hq⟩ := ha.get
  exact va_alen F.1 F.2.1 hK.1 hw.1 q0 t0 hq ht hv hdg kk
theorem p_new {ty0 : Nat → FieldType} (F : CallFix p m c cc nL s args Ts own) (hc : vwCl[ci]? = some (C, T, N)) (hi : ∀ w ∈ u_ws C T N, w ∈ Ts) (hty : ∀ k, k < N → parseFieldDescriptor (T k).2.2.1 = some (ty0 k)) (hcl : Cond.classLink own index C ∈ Ts) (hinst : Cond.instantiable C N ∈ Ts) (hini : Cond.initialized C ∈ Ts) (hK : kK G Y s) (hw : wW G A s.heap (pw h) H locs) (hA : ∀ q, s.heap.size ≤ q → A q) (hfs : ∀ j, j < N → defaultValue (ty0 j) = vp_V fs j) (hcells : cells + 1 ≤ R.cells) (hslots : slots + N ≤ R.slots) (hdg : decode cc pc = .ok (.new index, 3))
    (kk : ∀ (q : Nat) (H1 : Heap), q ∉ h.1 → wW G A s.heap (pw (pNew h q (.inr (ci, fs)))) H1 locs → W p l e R s m args below meth c H1 locs (cells + 1) (slots + N) Q (F0 m (pc + 3) ls (.ref q :: rest))) : W p l e R s m args below meth c H locs cells slots Q (F0 m pc ls rest) := by
  refine va_new (ci := ci) (fs := fs) (C := C) (T := T) (N := N) F.1 F.2.1 F.2.2.2.2 hi ty0 hty F.2.2.2.1 (F.2.2.2.2 _ hcl) (F.2.2.2.2 _ hinst) (F.2.2.2.2 _ hini) hK.1 hw.1 hw.2.1 hw.2.2 hA hc hfs hcells hslots hdg (fun q H1 hP hD hS => ?_)
  have hq := pw_fresh hD
  rw [pw_push hq] at hP hD
  exact kk q H1 hq ⟨hP, hD, hS⟩
theorem kT_same {tys : List (ClassId × FieldType)} {cA cB : ClassId} {ty : FieldType} {k : Nat} (hK : va_K G vwCl (tys ++ [(cA, ty)]) s) (hk : tys[k]? = some (cB, ty)) : cA = cB := by
  have h1 := (hK.2 tys.length (cA, ty) (by rw [List.getElem?_append_right (Nat.le_refl _), Nat.sub_self]; rfl)).2
  have h2 := (hK.2 k (cB, ty) (by rw [List.getElem?_append_left (List.getElem?_eq_some_iff.mp hk).1]; exact hk)).2
  cases ty with
  | object C =>
    obtain ⟨_, _, _, _, _, h3⟩ := h1
    obtain ⟨_, _, _, _, _, h4⟩ := h2
    exact Option.some.inj (h3.symm.trans h4)
  | _ => exact Option.some.inj (Eq.trans (Eq.symm h1) h2)
theorem p_newI {N' : Nat} (F : CallFix p m c cc nL s args Ts own) (harr : Cond.arrayClass .int ∈ Ts) (hK : kK G Y s) (hw : wW G A s.heap (pw h) H locs) (hA : ∀ q, s.heap.size ≤ q → A q) (hn : ¬ i < 0) (hN : i.toNatClampNeg = N') (hb9 : N' ≤ 100000) (hcells : cells + 1 ≤ R.cells) (hslots : slots + N' ≤ R.slots) (hdg : decode cc pc = .ok (.newarray .int, 2))
    (kk : ∀ (q : Nat) (H1 : Heap), q ∉ h.1 → wW G A s.heap (pw (pNew h q (aI Y N' (fun _ => 0)))) H1 locs → W p l e R s m args below meth c H1 locs (cells + 1) (slots + N') Q (F0 m (pc + 2) ls (.ref q :: rest))) : W p l e R s m args below meth c H locs cells slots Q (F0 m pc ls (.int i :: rest)) := by
  refine va_newa (atype := .int) (ty := .int) (a0 := (N', .inl (fun _ => 0))) F.1 F.2.1 (F.2.2.2.2 _ harr) rfl hK.1 hw.1 hw.2.1 hw.2.2 hA (fun _ => rfl) hn hN (by simp [componentBytes]; omega) hcells hslots hdg (fun q cA H1 hK1 hP hD hS => ?_)
  obtain rfl : cA = Y 0 := kT_same (k := 0) hK1 rfl
  have hq := pw_fresh hD
  rw [pw_push hq] at hP hD
  exact kk q H1 hq ⟨hP, hD, hS⟩
theorem p_newJ {N' : Nat} (F : CallFix p m c cc nL s args Ts own) (harr : Cond.arrayClass .long ∈ Ts) (hK : kK G Y s) (hw : wW G A s.heap (pw h) H locs) (hA : ∀ q, s.heap.size ≤ q → A q) (hn : ¬ i < 0) (hN : i.toNatClampNeg = N') (hb9 : N' ≤ 100000) (hcells : cells + 1 ≤ R.cells) (hslots : slots + N' ≤ R.slots) (hdg : decode cc pc = .ok (.newarray .long, 2))
    (kk : ∀ (q : Nat) (H1 : Heap), q ∉ h.1 → wW G A s.heap (pw (pNew h q (aJ Y N' (fun _ => 0)))) H1 locs → W p l e R s m args below meth c H1 locs (cells + 1) (slots + N') Q (F0 m (pc + 2) ls (.ref q :: rest))) : W p l e R s m args below meth c H locs cells slots Q (F0 m pc ls (.int i :: rest)) := by
  refine va_newa (atype := .long) (ty := .long) (a0 := (N', .inr (.inl (fun _ => 0)))) F.1 F.2.1 (F.2.2.2.2 _ harr) rfl hK.1 hw.1 hw.2.1 hw.2.2 hA (fun _ => rfl) hn hN (by simp [componentBytes]; omega) hcells hslots hdg (fun q cA H1 hK1 hP hD hS => ?_)
  obtain rfl : cA = Y 1 := kT_same (k := 1) hK1 rfl
  have hq := pw_fresh hD
  rw [pw_push hq] at hP hD
  exact kk q H1 hq ⟨hP, hD, hS⟩
theorem p_newA {C : String} {N' : Nat} {cB : ClassId} (k : Nat) (F : CallFix p m c cc nL s args Ts own) (hk : (kT Y)[k]? = some (cB, .object C)) (hcl : Cond.classLink own index C ∈ Ts) (hao : va_AO C s) (hK : kK G Y s) (hw : wW G A s.heap (pw h) H locs) (hA : ∀ q, s.heap.size ≤ q → A q) (hn : ¬ i < 0) (hN : i.toNatClampNeg = N') (hb9 : N' ≤ 100000) (hcells : cells + 1 ≤ R.cells) (hslots : slots + N' ≤ R.slots) (hdg : decode cc pc = .ok (.anewarray index, 3))
    (kk : ∀ (q : Nat) (H1 : Heap), q ∉ h.1 → wW G A s.heap (pw (pNew h q (.inl (cB, N', .inr (.inr (.inr (.inr (fun _ => none)))))))) H1 locs → W p l e R s m args below meth c H1 locs (cells + 1) (slots + N') Q (F0 m (pc + 3) ls (.ref q :: rest))) : W p l e R s m args below meth c H locs cells slots Q (F0 m pc ls (.int i :: rest)) := by
  refine va_newq (C := C) F.1 F.2.1 F.2.2.2.1 (F.2.2.2.2 _ hcl) hao hK.1 hw.1 hw.2.1 hw.2.2 hA hn hN (by omega) hcells hslots hdg (fun q cA H1 hK1 hP hD hS => ?_)
  obtain rfl : cA = cB := kT_same (k := k) hK1 hk
  have hq := pw_fresh hD
  rw [pw_push hq] at hP hD
  exact kk q H1 hq ⟨hP, hD, hS⟩
end PHR
