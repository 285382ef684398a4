/-! the law's world: the reference, the row of one long, the class -/
theorem va_D.pwise {A : Nat → Prop} {ws : va_W} (h : va_D A ws) : ws.Pairwise (fun p q => p.1 ≠ q.1) := by
  rw [List.pairwise_iff_getElem]
  intro i j hi hj hij e
  have := h.1 i j ws[i] ws[j] (List.getElem?_eq_getElem hi) (List.getElem?_eq_getElem hj) e
  omega
section LWB
variable {G : va_G} {Y : Nat → ClassId} {A : Nat → Prop} {H0 H : Heap} {locs : List Loc} {ws ws' wa wb : va_W}
/-- a part of a world, in another order -/
theorem wW_of (hw : wW G A H0 ws H locs) (hm : ∀ q, q ∈ ws' → q ∈ ws) (hp : ws'.Pairwise (fun p q => p.1 ≠ q.1)) : wW G A H0 ws' H locs := by
  have get : ∀ (k : Nat) (q : Nat × va_E), ws'[k]? = some q → ∃ k' : Nat, ws[k']? = some q := fun k q hk => List.getElem?_of_mem (hm q (List.mem_of_getElem? hk))
  refine ⟨fun k q hk => ?_, ⟨fun i j x z hi hj e => ?_, fun k q hk => ?_⟩, hw.2.2⟩
  · obtain ⟨k', h'⟩ := get k q hk
    exact hw.1 k' q h'
  · obtain ⟨hi1, hi2⟩ := List.getElem?_eq_some_iff.mp hi
    obtain ⟨hj1, hj2⟩ := List.getElem?_eq_some_iff.mp hj
    rcases Nat.lt_trichotomy i j with q | q | q
    · exact absurd (by rw [hi2, hj2]; exact e) ((List.pairwise_iff_getElem.mp hp) i j hi1 hj1 q)
    · exact q
    · exact absurd (by rw [hi2, hj2]; exact e.symm) ((List.pairwise_iff_getElem.mp hp) j i hj1 hi1 q)
  · obtain ⟨k', h'⟩ := get k q hk
    exact hw.2.1.2 k' q h'
theorem wW_swap (hw : wW G A H0 (wa ++ wb) H locs) : wW G A H0 (wb ++ wa) H locs := by
  refine wW_of hw (fun q hq => List.mem_append.mpr ((List.mem_append.mp hq).symm)) ?_
  have h1 := hw.2.1.pwise
  rw [List.pairwise_append] at h1 ⊢
  exact ⟨h1.2.1, h1.1, fun x hx y hy e => h1.2.2 y hy x hx e.symm⟩
/-- a pure heap's part by its cells -/
theorem wW_sub {h : PH} (hw : wW G A H0 (wa ++ pw h) H locs) (hq : ∀ q, q ∈ ws' → pAt h q.1 q.2) (hp : ws'.Pairwise (fun p q => p.1 ≠ q.1)) : wW G A H0 (wa ++ ws') H locs := by
  have mem : ∀ q, q ∈ ws' → q ∈ pw h := fun q h9 => by
    obtain ⟨k, hk⟩ := (hq q h9).get
    exact List.mem_of_getElem? hk
  refine wW_of hw (fun q h9 => List.mem_append.mpr ((List.mem_append.mp h9).imp id (mem q))) ?_
  have h1 := hw.2.1.pwise
  rw [List.pairwise_append] at h1 ⊢
  exact ⟨h1.1, hp, fun x hx y hy e => h1.2.2 x hx y (mem y hy) e⟩
end LWB
def lW (Y : Nat → ClassId) (xm : Nat) (adm : Nat → Nat) (o : Nat) (u : MS) (g : Nat → Int64) (h : PH) : va_W := (mW Y xm adm u ++ [(o, aJ Y 1 g)]) ++ pw h
section LWC
variable {p : Program} {l : Launch} {e : Env} {R : Room} {s : State} {m : MethodId} {args : Array Value} {below : List Frame} {meth : Method} {c : Code} {H : Heap} {locs : List Loc} {cells slots : Nat} {Q : State → Prop} {cc : ByteArray} {pc : Nat} {ls : Array Slot} {G : va_G} {Y : Nat → ClassId} {A : Nat → Prop}
variable {y : MethodName} {bytes : ByteArray} {maxL nL n index : Nat} {ret : Option FieldType} {wd : List Cond} {rm : Room} {Ts : List Cond} {own C : String} {b : Addr} {As rest st : List Value}
variable {xm o : Nat} {adm : Nat → Nat} {u : MS} {g : Nat → Int64} {h : PH}
/-- a call of the class -/
theorem lw_callX {post : Int32 → PH → Prop} (hM : ctI l G Y pw y wd rm (.ref b :: As) h post) (F : CallFix p m c cc nL s args Ts own) (cw : CallW R s args own RX4 index y bytes maxL ret wd rm rm.cells rm.slots n) (hK : kK G Y s) (hw : wW G A s.heap (lW Y xm adm o u g h) H locs) (hA : ∀ q, s.heap.size ≤ q → A q)
    {fs : List Value} (ha : pAt h b (.inr (4, fs))) (hst : st = As.reverse ++ .ref b :: rest) (hn : As.length = n) (hsz : ls.size = nL) (hroom : (rest.map fun v => v.category).sum ≤ 8) (hdg : decode cc pc = .ok (.invokevirtual index, 3)) (hf : cells + rm.cells ≤ R.cells ∧ slots + rm.slots ≤ R.slots)
    (kk : ∀ (r : Int32) (h' : PH) (H' : Heap) (locs' : List Loc), post r h' → wW G A s.heap (lW Y xm adm o u g h') H' locs' → W p l e R s m args below meth c H' locs' (cells + rm.cells) (slots + rm.slots) Q (F0 m (pc + 3) ls (.int r :: rest))) : W p l e R s m args below meth c H locs cells slots Q (F0 m pc ls st) := by
  have hrecv : ∃ cell : Cell, H[b]? = some cell ∧ cell.vm.isStatics = false ∧ s.vm.findClass RX4 = some cell.cls := by
    obtain ⟨k, hk⟩ := ha.get
    exact va_recv hK.1 (wW_split hw).1 (ci := 4) (q := (RX4, TX4, 6)) rfl hk
  exact ct_goi (wr := mW Y xm adm u ++ [(o, aJ Y 1 g)]) hK hw hA (ct_runV (wr := mW Y xm adm u ++ [(o, aJ Y 1 g)]) F (hM H.size) cw hK hw hrecv hst hn hsz hroom hdg hf) kk
theorem lW_m (hw : wW G A s.heap (lW Y xm adm o u g h) H locs) : wW G A s.heap (([(o, aJ Y 1 g)] ++ pw h) ++ mW Y xm adm u) H locs := by
  unfold lW at hw
  rw [List.append_assoc] at hw
  exact wW_swap hw
theorem lW_of (hw : wW G A s.heap (([(o, aJ Y 1 g)] ++ pw h) ++ mW Y xm adm u) H locs) : wW G A s.heap (lW Y xm adm o u g h) H locs := by
  unfold lW
  rw [List.append_assoc]
  exact wW_swap hw
theorem lW_recv (hK : kK G Y s) (hw : wW G A s.heap (lW Y xm adm o u g h) H locs) : ∃ cell : Cell, H[xm]? = some cell ∧ cell.vm.isStatics = false ∧ s.vm.findClass RX5 = some cell.cls := by
  obtain ⟨d, sc, sz, sg, ik, cp, wt, wa, ch, ct, th⟩ := u
  exact va_recv hK.1 hw.1 (ci := 5) (q0 := 0) rfl rfl
/-- a call of the reference -/
theorem lw_callM {post : Int32 → MS → Prop} (hM : ctI l G Y (mW Y xm adm) y wd rm (.ref xm :: As) u post) (F : CallFix p m c cc nL s args Ts own) (cw : CallW R s args own RX5 index y bytes maxL ret wd rm rm.cells rm.slots n) (hK : kK G Y s) (hw : wW G A s.heap (lW Y xm adm o u g h) H locs) (hA : ∀ q, s.heap.size ≤ q → A q)
    (hst : st = As.reverse ++ .ref xm :: rest) (hn : As.length = n) (hsz : ls.size = nL) (hroom : (rest.map fun v => v.category).sum ≤ 8) (hdg : decode cc pc = .ok (.invokevirtual index, 3)) (hf : cells + rm.cells ≤ R.cells ∧ slots + rm.slots ≤ R.slots)
    (kk : ∀ (r : Int32) (u' : MS) (H' : Heap) (locs' : List Loc), post r u' → wW G A s.heap (lW Y xm adm o u' g h) H' locs' → W p l e R s m args below meth c H' locs' (cells + rm.cells) (slots + rm.slots) Q (F0 m (pc + 3) ls (.int r :: rest))) : W p l e R s m args below meth c H locs cells slots Q (F0 m pc ls st) :=
  ct_goi (wr := [(o, aJ Y 1 g)] ++ pw h) hK (lW_m hw) hA (ct_runV (wr := [(o, aJ Y 1 g)] ++ pw h) F (hM H.size) cw hK (lW_m hw) (lW_recv hK hw) hst hn hsz hroom hdg hf) (fun r u' H' locs' hp hw' => kk r u' H' locs' hp (lW_of hw'))
theorem lw_callMJ {post : Int64 → MS → Prop} (hM : ctJ l G Y (mW Y xm adm) y wd rm (.ref xm :: As) u post) (F : CallFix p m c cc nL s args Ts own) (cw : CallW R s args own RX5 index y bytes maxL ret wd rm rm.cells rm.slots n) (hK : kK G Y s) (hw : wW G A s.heap (lW Y xm adm o u g h) H locs) (hA : ∀ q, s.heap.size ≤ q → A q)
    (hst : st = As.reverse ++ .ref xm :: rest) (hn : As.length = n) (hsz : ls.size = nL) (hroom : (rest.map fun v => v.category).sum ≤ 8) (hdg : decode cc pc = .ok (.invokevirtual index, 3)) (hf : cells + rm.cells ≤ R.cells ∧ slots + rm.slots ≤ R.slots)
    (kk : ∀ (r : Int64) (u' : MS) (H' : Heap) (locs' : List Loc), post r u' → wW G A s.heap (lW Y xm adm o u' g h) H' locs' → W p l e R s m args below meth c H' locs' (cells + rm.cells) (slots + rm.slots) Q (F0 m (pc + 3) ls (.long r :: rest))) : W p l e R s m args below meth c H locs cells slots Q (F0 m pc ls st) :=
  ct_goj (wr := [(o, aJ Y 1 g)] ++ pw h) hK (lW_m hw) hA (ct_runV (wr := [(o, aJ Y 1 g)] ++ pw h) F (hM H.size) cw hK (lW_m hw) (lW_recv hK hw) hst hn hsz hroom hdg hf) (fun r u' H' locs' hp hw' => kk r u' H' locs' hp (lW_of hw'))
/-- an int of the script -/
theorem lw_arg {bx L k j : Nat} {xs : Nat → Int32} {n : Int} {lv : List (Nat × Value)} {i0 i4 : Nat} (hx : p.tables.exec = Jvm.exec) (hb : c.code = cc) (hX : va_X bx L xs s s.heap) (hbl : bx < s.heap.size) (hbA : ¬ A bx) (hS : va_S A s.heap H locs) (hj : j < 7) (hk : 7 * k + 7 ≤ L) (hL : L ≤ 3584) (hl : lv_has ls nL lv) (h0 : lv[i0]? = some (0, .ref bx)) (h4 : lv[i4]? = some (4, .int (nI (7 * k))))
    (hn : Int32.ofInt n = nI j) (d0 : decode cc pc = .ok (.aload_n 0, 1)) (d1 : decode cc (pc + 1) = .ok (.iload 4, 2)) (d3 : decode cc (pc + 1 + 2) = .ok (.iconst n, 1)) (d4 : decode cc (pc + 1 + 2 + 1) = .ok (.iadd, 1)) (d5 : decode cc (pc + 1 + 2 + 1 + 1) = .ok (.iaload, 1))
    (kk : W p l e R s m args below meth c H locs cells slots Q (F0 m (pc + 1 + 2 + 1 + 1 + 1) ls (.int (xs (7 * k + j)) :: rest))) : W p l e R s m args below meth c H locs cells slots Q (F0 m pc ls rest) := by
  refine lv_aload_n hx hb d0 rfl (lv_at hl i0 h0) ?_
  refine lv_iload hx hb d1 (lv_at hl i4 h4) ?_
  refine lv_iconst hx hb d3 hn ?_
  refine lv_iadd hx hb d4 ?_
  rw [nI_add]
  refine va_sld hx hb hX hbl hbA hS (vp_in_nI (by omega) (by omega)) d5 ?_
  rw [nI_clamp (by omega)]
  exact kk
theorem lw_arg6 {bx L k : Nat} {xs : Nat → Int32} {lv : List (Nat × Value)} {i0 i4 : Nat} (hx : p.tables.exec = Jvm.exec) (hb : c.code = cc) (hX : va_X bx L xs s s.heap) (hbl : bx < s.heap.size) (hbA : ¬ A bx) (hS : va_S A s.heap H locs) (hk : 7 * k + 7 ≤ L) (hL : L ≤ 3584) (hl : lv_has ls nL lv) (h0 : lv[i0]? = some (0, .ref bx)) (h4 : lv[i4]? = some (4, .int (nI (7 * k))))
    (d0 : decode cc pc = .ok (.aload_n 0, 1)) (d1 : decode cc (pc + 1) = .ok (.iload 4, 2)) (d3 : decode cc (pc + 1 + 2) = .ok (.bipush 6, 2)) (d4 : decode cc (pc + 1 + 2 + 2) = .ok (.iadd, 1)) (d5 : decode cc (pc + 1 + 2 + 2 + 1) = .ok (.iaload, 1))
    (kk : W p l e R s m args below meth c H locs cells slots Q (F0 m (pc + 1 + 2 + 2 + 1 + 1) ls (.int (xs (7 * k + 6)) :: rest))) : W p l e R s m args below meth c H locs cells slots Q (F0 m pc ls rest) := by
  refine lv_aload_n hx hb d0 rfl (lv_at hl i0 h0) ?_
  refine lv_iload hx hb d1 (lv_at hl i4 h4) ?_
  refine lv_bipush (v := nI 6) hx hb d3 (by decide) ?_
  refine lv_iadd hx hb d4 ?_
  rw [nI_add]
  refine va_sld hx hb hX hbl hbA hS (vp_in_nI (by omega) (by omega)) d5 ?_
  rw [nI_clamp (by omega)]
  exact kk
end LWC
theorem sOut.up {Y : Nat → ClassId} {ad : Nat → Nat} {h : PH} {u : MS} {cb cb' : Nat} (H : sOut Y ad h u cb) (hc : cb ≤ cb') : sOut Y ad h u cb' := by
  obtain ⟨cs, h1, h2⟩ := H
  refine ⟨cs, h1, ?_⟩
  obtain ⟨dk, ⟨BK, bS, bN, bV, bT, vA, sA⟩, ⟨ink, cop, wai, O⟩, ⟨nx, he, C⟩, tl⟩ := cs
  obtain ⟨d, sc, sz, sg, ik, cp, wt, wa, ch, ct, th⟩ := u
  exact ⟨h2.1, h2.2.1, h2.2.2.1, h2.2.2.2.up hc⟩
abbrev lA (s : State) : Nat → Prop := fun q => s.heap.size ≤ q
abbrev lwLv (b x xm o k : Nat) : List (Nat × Value) := [(4, .int (nI (7 * k))), (3, .ref o), (2, .ref xm), (1, .ref x), (0, .ref b)]
