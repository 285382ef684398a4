/-! sign: the class's throws, the law's own method catches -/
abbrev nISE : String := "java/lang/IllegalStateException"
abbrev nIOB : String := "java/lang/IndexOutOfBoundsException"
def xN : List Cond := [.declares (Bundle.initS "java/lang/RuntimeException"), .declares (Bundle.initS "java/lang/Exception"), .declares (Bundle.initS Bundle.tN), .castable nISE nISE, .castable nIOB nIOB]
/-- the tables' words of a throw that a call does not bring along -/
def xK (U : State) : Prop := ∀ w ∈ xN, w.before #[] U = true
theorem xN_ot : ∀ w ∈ xN, w.onTables = true := List.all_eq_true.mp (show xN.all (fun w => w.onTables) = true by decide +kernel)
theorem xK.use {U : State} (h : xK U) (a : Array Value) : ∀ w ∈ xN, w.before a U = true := fun w hw => va_tabs (xN_ot w hw) rfl (h w hw)
theorem xK.moved {u U : State} (hvm : u.vm.Alike U.vm) (h : xK u) : xK U := by
  intro w hw
  have h1 := h w hw
  have h2 := xN_ot w hw
  have key : w.before #[] (u.setVm U.vm) = true := by
    rcases List.mem_cons.mp hw with rfl | hw
    · rw [Cond.declares_setVm hvm]; exact h1
    rcases List.mem_cons.mp hw with rfl | hw
    · rw [Cond.declares_setVm hvm]; exact h1
    rcases List.mem_cons.mp hw with rfl | hw
    · rw [Cond.declares_setVm hvm]; exact h1
    rcases List.mem_cons.mp hw with rfl | hw
    · rw [Cond.castable_setVm hvm]; exact h1
    rcases List.mem_cons.mp hw with rfl | hw
    · rw [Cond.castable_setVm hvm]; exact h1
    · exact absurd hw List.not_mem_nil
  exact va_tabs h2 (rfl : (u.setVm U.vm).vm = U.vm) key
def xE (A : Nat → Prop) (U : State) (H : Heap) : Prop := xK U ∧ (∃ sa sb : Nat, vk_R RX4 120 "no book lies there" sa U ∧ vk_R RX4 127 "no such place" sb U) ∧ va_Nc nIOB nISE U ∧ vx_Zq Bundle.tN "UNASSIGNED_STACK" Bundle.steD A U H ∧ vx_Zq Bundle.tN "SUPPRESSED_SENTINEL" Bundle.listD A U H
theorem xE.same {A : Nat → Prop} {u U : State} {H : Heap} (hv : U.vm = u.vm) (h : xE A u H) : xE A U H := by
  obtain ⟨h1, ⟨sa, sb, h2, h3⟩, h4, h5, h6⟩ := h
  have al : u.vm.Alike U.vm := by rw [hv]; exact Vm.Alike.refl u.vm
  exact ⟨h1.moved al, ⟨sa, sb, h2.same hv, h3.same hv⟩, h4.moved al, h5.moved al, h6.moved al⟩
theorem xE.at {A B : Nat → Prop} {s U : State} {H : Heap} {locs : List Loc} (h : xE A s s.heap) (hS : va_S A s.heap H locs) (hW : s.WarmedH U.vm) (hB : ∀ q, B q → A q) : xE B U H := by
  obtain ⟨h1, ⟨sa, sb, h2, h3⟩, h4, h5, h6⟩ := h
  exact ⟨h1.moved hW.alike, ⟨sa, sb, h2.warm hW, h3.warm hW⟩, h4.moved hW.alike, ((h5.kept hS.2.1).moved hW.alike).narrow hB, ((h6.kept hS.2.1).moved hW.alike).narrow hB⟩
def xPre (G : va_G) (Y : Nat → ClassId) (av : List Value) (ws : va_W) (sz : Nat) : Array Value → State → Prop := va_Pc av (fun U => U.heap.size = sz ∧ wC G Y (fun _ => True) ws U ∧ xE (va_A ws sz) U U.heap)
section XPR
variable {S : Type} {s : State} {H : Heap} {locs : List Loc} {G : va_G} {Y : Nat → ClassId} {wf : S → va_W} {A : Nat → Prop} {u : S} {wr ws : va_W}
theorem xPre_blind {av : List Value} {ws : va_W} {sz : Nat} : FrameBlind (xPre G Y av ws sz) := fun a U g mk q => by
  obtain ⟨q0, q1, ⟨qP, qK, qD⟩, qE⟩ := q
  exact ⟨q0, q1, ⟨qP, kK.moved (u := U) (U := U.calling g mk a) (Vm.Alike.refl U.vm) qK, qD⟩, show xE (va_A ws sz) (U.calling g mk a) U.heap from xE.same (u := U) (U := U.calling g mk a) rfl qE⟩
theorem xPre_at {av : List Value} (hA : ∀ q, s.heap.size ≤ q → A q) (hK : kK G Y s) (hE : xE A s s.heap) (hw : wW G A s.heap (wr ++ wf u) H locs) (U : State) (hU : U.heap = H) (hW : s.WarmedH U.vm) : xPre G Y av (wf u) H.size av.toArray U :=
  ⟨rfl, by rw [hU], ⟨by rw [hU]; exact (wW_split hw).1, kK.moved hW.alike hK, (wW_split hw).2.weaken (fun _ _ _ _ => trivial)⟩, by rw [hU]; exact hE.at hw.2.2 hW (wW_free hA hw)⟩
/-- the heap has grown behind the walk -/
theorem wC_grow (hK : kK G Y s) (hw : wW G A s.heap ws H locs) (t : State) (hvm : s.vm.Alike t.vm) (hsz : H.size ≤ t.heap.size) (hq : ∀ q : Nat, q < H.size → t.heap[q]? = H[q]?) : wC G Y A ws t ∧ va_F A s t :=
  ⟨⟨fun k q hk => (hw.1 k q hk).kept (hq q.1 (hw.1 k q hk).lt), kK.moved hvm hK, hw.2.1⟩, Nat.le_trans hw.2.2.1 hsz, fun q h1 h2 => (hq q (Nat.lt_of_lt_of_le h1 hw.2.2.1)).trans (hw.2.2.2.1 q h1 h2)⟩
end XPR
theorem xof {l : Launch} {G : va_G} {Y : Nat → ClassId} {ws : va_W} {y : MethodName} {wd wd' : List Cond} {rm : Room} {av : List Value} {Qc : (Nat → Prop) → Array Value → State → Outcome → State → Prop} {XC : (Nat → Prop) → String → State → State → Prop} {cc : ByteArray} {maxL : Nat} {ret : Option FieldType}
    (hy : plainName y.cls = true) (hw : wd = Cond.code y cc maxL ret :: wd') (hlen : (lg_sl av).length ≤ maxL)
    (body : ∀ (A : Nat → Prop) p e s m below meth c ls, bSt G Y A ws p y wd cc maxL ret av s m meth c ls → xE A s s.heap → (∀ x ∈ c.exceptionTable.toList, False) →
      W p l e rm s m av.toArray below meth c s.heap [] 0 0 (vx_MQ below (Qc A) (XC A) av.toArray s rm.cells rm.slots A) (F0 m 0 ls [])) :
    ∀ sz, vx_Met l y wd rm (xPre G Y av ws sz) (Qc (va_A ws sz)) (XC (va_A ws sz)) rm.cells rm.slots (va_A ws sz) := by
  intro sz
  refine vx_ofW (cc := cc) (maxL := maxL) (ret := ret) hy hw ?_
  intro p e s m args below meth c s₁ B hml hex hv
  obtain ⟨rfl, hsz, ⟨hP, hK, hD0⟩, hE⟩ := hv
  have hts := atoms_spec (ws := wd) B.pre
  have hown : s.vm.findClass y.cls = some m.cls := findClass_of_methodNamed B.named
  subst hsz
  have hD := hD0.self (sz := s.heap.size)
  have hl := lv_entry av (n := maxL) hlen
  rw [lg_entry_eq]
  exact body _ p e s m below meth c _ ⟨⟨B.exec, B.bytes, hml, hown, hts⟩, B.returns, B.notSynchronized, (name_of_methodNamed B.named B.method).1, hK, fun q h => Or.inr h, ⟨hP, hD, va_S.rf⟩, hl⟩ hE hex
theorem xofW {l : Launch} {G : va_G} {Y : Nat → ClassId} {ws : va_W} {y : MethodName} {wd wd' : List Cond} {rm : Room} {av : List Value} {Qc : (Nat → Prop) → Array Value → State → Outcome → State → Prop} {cc : ByteArray} {maxL : Nat} {ret : Option FieldType} {hh : List (Nat × Nat × Nat × Nat)}
    (hy : plainName y.cls = true) (hw : wd = Cond.codeWith y cc maxL ret hh :: wd') (hlen : (lg_sl av).length ≤ maxL)
    (body : ∀ (A : Nat → Prop) p e s m below meth c ls, bSt G Y A ws p y wd cc maxL ret av s m meth c ls → xE A s s.heap → c.exceptionTable.toList = tableOf hh →
      W p l e rm s m av.toArray below meth c s.heap [] 0 0 (MQ below (Qc A) av.toArray s rm.cells rm.slots A) (F0 m 0 ls [])) :
    ∀ sz, Met l y wd rm (xPre G Y av ws sz) (Qc (va_A ws sz)) rm.cells rm.slots (va_A ws sz) := by
  intro sz
  refine va_MetW (cc := cc) (maxL := maxL) (ret := ret) hy hw ?_
  intro p e s m args below meth c s₁ B hml hv
  obtain ⟨rfl, hsz, ⟨hP, hK, hD0⟩, hE⟩ := hv
  have hts := atoms_spec (ws := wd) B.pre
  have htab : c.exceptionTable.toList = tableOf hh := vx_table (x := y) B (hts _ (by rw [hw]; exact List.mem_cons_self))
  have hown : s.vm.findClass y.cls = some m.cls := findClass_of_methodNamed B.named
  subst hsz
  have hD := hD0.self (sz := s.heap.size)
  have hl := lv_entry av (n := maxL) hlen
  rw [lg_entry_eq]
  exact body _ p e s m below meth c _ ⟨⟨B.exec, B.bytes, hml, hown, hts⟩, B.returns, B.notSynchronized, (name_of_methodNamed B.named B.method).1, hK, fun q h => Or.inr h, ⟨hP, hD, va_S.rf⟩, hl⟩ hE htab
abbrev nRun : List String := ["java/lang/RuntimeException", "java/lang/Exception"]
theorem xat1 {args : Array Value} {s : State} (hts : ∀ w ∈ wsX4_sign, w.before args s = true) (hx : xK s) : ∀ w ∈ vx_atS RX4 122 nISE nRun, w.before args s = true :=
  vx_hat (B := xN) (fun w h => hts w (List.mem_cons_of_mem _ (List.mem_append_left _ (List.mem_append_right _ h)))) (by decide +kernel) (hx.use args)
theorem xat2 {args : Array Value} {s : State} (hts : ∀ w ∈ wsX4_sign, w.before args s = true) (hx : xK s) : ∀ w ∈ vx_atS RX4 129 nIOB nRun, w.before args s = true :=
  vx_hat (B := xN) (fun w h => hts w (List.mem_cons_of_mem _ (List.mem_append_right _ h))) (by decide +kernel) (hx.use args)
theorem xgood1 : ∀ w ∈ Cond.classLink RX4 118 nISE :: Cond.initialized nISE :: vx_atS RX4 122 nISE nRun, vx_ot w = true := List.all_eq_true.mp (by decide +kernel)
theorem xgood2 : ∀ w ∈ Cond.classLink RX4 125 nIOB :: Cond.initialized nIOB :: vx_atS RX4 129 nIOB nRun, vx_ot w = true := List.all_eq_true.mp (by decide +kernel)
/-- what sign says when it throws: 1, 2 -/
def sXB (G : va_G) (Y : Nat → ClassId) (A : Nat → Prop) (h : PH) (c1 c2 : Prop) (E : String) (k : Int32) (t : State) : Prop := ((E = nISE ∧ k = 1 ∧ c1) ∨ (E = nIOB ∧ k = 2 ∧ c2)) ∧ wC G Y A (pw h) t
set_option maxHeartbeats 4000000 in
set_option maxRecDepth 100000 in
theorem c_X4_sign (l : Launch) (hl9 : l.stackTraces = false) (G : va_G) (Y : Nat → ClassId) (h : PH) (ad dk : Nat → Nat) (BK : List Nat) (bS : Nat → Int32) (bN : Nat → Nat) (bV : Nat → Nat → Int64) (bT : Nat → Nat → Int32) (vA sA : Nat → Nat) (ink cop : Nat → Int32) (wai : Nat → Nat) (O : Nat → Nat → Ord) (nx he : Nat) (C : Nat → Nat → Int32) (tl : Nat → Int32) (p0 p1 : Int32) (hC : CRep Y h ad (dk, (BK, bS, bN, bV, bT, vA, sA), (ink, cop, wai, O), (nx, he, C), tl)) :
    ∀ sz, vx_Met l yX4_sign wsX4_sign ({ frames := 6, cells := 1, slots := 6, locals := 100 } : Room) (xPre G Y [.ref (ad 0), .int p0, .int p1] (pw h) sz)
      (va_Ql (fun r h' => h' = h ∧ (isD p0 ∧ ¬ bS (dk (cl p0)) < 0) ∧ (¬ p1 < 0 ∧ ¬ nI (bN (dk (cl p0))) ≤ p1) ∧ r = cSgn (bS (dk (cl p0))) (bV (dk (cl p0)) (cl p1)) (bT (dk (cl p0)) (cl p1))) (fun u' t => wC G Y (va_A (pw h) sz) (pw u') t) (va_A (pw h) sz))
      (vx_X (fun _ => True) (sXB G Y (va_A (pw h) sz) h (¬ (isD p0 ∧ ¬ bS (dk (cl p0)) < 0)) ((isD p0 ∧ ¬ bS (dk (cl p0)) < 0) ∧ ¬ (¬ p1 < 0 ∧ ¬ nI (bN (dk (cl p0))) ≤ p1))) (va_A (pw h) sz)) 1 6 (va_A (pw h) sz) := by
  refine xof (cc := cX4_sign) (maxL := 3) (ret := some .long) (rm := { frames := 6, cells := 1, slots := 6, locals := 100 }) (av := [.ref (ad 0), .int p0, .int p1]) (Qc := fun A => va_Ql (fun r h' => h' = h ∧ (isD p0 ∧ ¬ bS (dk (cl p0)) < 0) ∧ (¬ p1 < 0 ∧ ¬ nI (bN (dk (cl p0))) ≤ p1) ∧ r = cSgn (bS (dk (cl p0))) (bV (dk (cl p0)) (cl p1)) (bT (dk (cl p0)) (cl p1))) (fun u' t => wC G Y A (pw u') t) A) (XC := fun A => vx_X (fun _ => True) (sXB G Y A h (¬ (isD p0 ∧ ¬ bS (dk (cl p0)) < 0)) ((isD p0 ∧ ¬ bS (dk (cl p0)) < 0) ∧ ¬ (¬ p1 < 0 ∧ ¬ nI (bN (dk (cl p0))) ≤ p1))) A) (by decide +kernel) rfl (Nat.le_of_ble_eq_true rfl) ?_
  intro A p e s m below meth c ls hB hE hex
  obtain ⟨F, hr, hlocks, hnm, hK, hA, hw, hl⟩ := hB
  obtain ⟨hx, hb, hml, hown, hts⟩ := id F
  have hl : lv_has ls 3 [(0, .ref (ad 0)), (1, .int p0), (2, .int p1)] := hl
  obtain ⟨-, ⟨sa, sb, hsa, hsb⟩, -⟩ := id hE
  have hk118 : Cond.classLink RX4 118 nISE ∈ wsX4_sign := by decide +kernel
  have hi118 : Cond.initialized nISE ∈ wsX4_sign := by decide +kernel
  have hk125 : Cond.classLink RX4 125 nIOB ∈ wsX4_sign := by decide +kernel
  have hi125 : Cond.initialized nIOB ∈ wsX4_sign := by decide +kernel
  have hi4 : ∀ w ∈ wsX40, w ∈ wsX4_sign := by decide +kernel
  have hl21 : Cond.fieldLink RX4 21 "Scriptorium" "desks" "[LScriptorium$Book;" ∈ wsX4_sign := by decide +kernel
  obtain ⟨f_x, ⟨fd, f_d, hfd⟩, hbk, hnn, -⟩ := id hC
  have f_x : pAt h (ad 0) (oX (ad 1) (ad 2) (ad 3) (ad 4) (ad 5) (ad 6)) := f_x
  refine lv_iload_n hx hb dX4_sign_0 rfl (lv_at hl 1 rfl) ?_
  refine (c_X4_isDesk l G Y pw _ _).callS F (va_cwS 1 hts gX4_sign_X4_isDesk rfl rfl rfl (by decide +kernel) ⟨Nat.le_of_ble_eq_true rfl, Nat.le_of_ble_eq_true rfl⟩) hK hw hA rfl rfl hl.1 (Nat.le_of_ble_eq_true rfl) dX4_sign_1 ⟨Nat.le_of_ble_eq_true rfl, Nat.le_of_ble_eq_true rfl⟩ (fun r_1 h_1 H locs hp_1 hw => ?_)
  obtain ⟨eh_1, hp_1⟩ := hp_1
  rw [eh_1] at hw
  rcases hp_1 with ⟨hq_1, rfl⟩ | ⟨hq_1, rfl⟩
  · refine lv_if_eq (tgt := 19) hx hb dX4_sign_4 (by decide) (fun c_4 => absurd c_4 (by decide)) (fun c_4 => ?_)
    refine lv_aload_n hx hb dX4_sign_7 rfl (lv_at hl 0 rfl) ?_
    refine p_get (ci := 4) (C := RX4) (T := TX4) (N := 6) 2 F rfl hi4 hl21 (by decide) hK hw f_x rfl dX4_sign_8 ?_
    refine lv_iload_n hx hb dX4_sign_11 rfl (lv_at hl 1 rfl) ?_
    refine p_ldB F hK hw f_d hq_1.in (hfd _ hq_1.lt).1 dX4_sign_12 ?_
    obtain ⟨f_b, f_bv, f_bs, hn_b⟩ := hbk _ (hfd _ hq_1.lt).2
    refine (c_X0_isNoBook l G Y _ _ _ _ _ f_b).callV F (cwV 0 hts gX4_sign_X0_isNoBook rfl rfl rfl (by decide +kernel) ⟨Nat.le_of_ble_eq_true rfl, Nat.le_of_ble_eq_true rfl⟩) hK hw hA (p_recv hK hw f_b rfl) rfl rfl hl.1 (Nat.le_of_ble_eq_true rfl) dX4_sign_13 ⟨Nat.le_of_ble_eq_true rfl, Nat.le_of_ble_eq_true rfl⟩ (fun r_13 h_13 H locs hp_13 hw => ?_)
    obtain ⟨eh_13, hp_13⟩ := hp_13
    rw [eh_13] at hw
    rcases hp_13 with ⟨hq_13, rfl⟩ | ⟨hq_13, rfl⟩
    · refine lv_if_eq (tgt := 29) hx hb dX4_sign_16 (by decide) (fun c_16 => absurd c_16 (by decide)) (fun c_16 => ?_)
      refine vx_throwS (own := RX4) (cls := nISE) (text := "no book lies there") (names := nRun) (ik := 118) (is := 120) (ic := 122) (A := A) hx hb hl9 hown (by decide +kernel) (by decide +kernel) (hts _ hk118) (hts _ hi118) hsa (xat1 hts hE.1) xgood1 hE.2.2.2.1 hE.2.2.2.2 hw.2.2 (hl.1.trans hml.symm) dX4_sign_19 dX4_sign_22 dX4_sign_23 dX4_sign_25 dX4_sign_28 (fun x hx9 => (hex x hx9).elim) (Nat.le_of_ble_eq_true rfl) (Nat.le_of_ble_eq_true rfl) (Nat.le_of_ble_eq_true rfl) (Nat.le_of_ble_eq_true rfl) hlocks (fun t hvm hsz hq => ?_) hw.2.2.2.2 (Nat.le_of_ble_eq_true rfl) (Nat.le_of_ble_eq_true rfl)
      obtain ⟨w1, w2⟩ := wC_grow hK hw t hvm hsz hq
      exact ⟨1, trivial, ⟨Or.inl ⟨rfl, rfl, fun z => z.2 hq_13⟩, w1⟩, w2⟩
    · refine lv_if_eq (tgt := 29) hx hb dX4_sign_16 (by decide) (fun c_16 => ?_) (fun c_16 => absurd rfl c_16)
      refine lv_aload_n hx hb dX4_sign_29 rfl (lv_at hl 0 rfl) ?_
      refine p_get (ci := 4) (C := RX4) (T := TX4) (N := 6) 2 F rfl hi4 hl21 (by decide) hK hw f_x rfl dX4_sign_30 ?_
      refine lv_iload_n hx hb dX4_sign_33 rfl (lv_at hl 1 rfl) ?_
      refine p_ldB F hK hw f_d hq_1.in (hfd _ hq_1.lt).1 dX4_sign_34 ?_
      refine lv_iload_n hx hb dX4_sign_35 rfl (lv_at hl 2 rfl) ?_
      refine (c_X0_hasPlace l G Y _ _ _ _ _ _ _ (bT (dk (cl p0))) _ f_b f_bv).callV F (cwV 1 hts gX4_sign_X0_hasPlace rfl rfl rfl (by decide +kernel) ⟨Nat.le_of_ble_eq_true rfl, Nat.le_of_ble_eq_true rfl⟩) hK hw hA (p_recv hK hw f_b rfl) rfl rfl hl.1 (Nat.le_of_ble_eq_true rfl) dX4_sign_36 ⟨Nat.le_of_ble_eq_true rfl, Nat.le_of_ble_eq_true rfl⟩ (fun r_36 h_36 H locs hp_36 hw => ?_)
      obtain ⟨eh_36, hp_36⟩ := hp_36
      rw [eh_36] at hw
      rcases hp_36 with ⟨hq_36, rfl⟩ | ⟨hq_36, rfl⟩
      · refine lv_if_ne (tgt := 52) hx hb dX4_sign_39 (by decide) (fun c_39 => ?_) (fun c_39 => absurd c_39 (by decide))
        refine lv_aload_n hx hb dX4_sign_52 rfl (lv_at hl 0 rfl) ?_
        refine p_get (ci := 4) (C := RX4) (T := TX4) (N := 6) 2 F rfl hi4 hl21 (by decide) hK hw f_x rfl dX4_sign_53 ?_
        refine lv_iload_n hx hb dX4_sign_56 rfl (lv_at hl 1 rfl) ?_
        refine p_ldB F hK hw f_d hq_1.in (hfd _ hq_1.lt).1 dX4_sign_57 ?_
        refine lv_iload_n hx hb dX4_sign_58 rfl (lv_at hl 2 rfl) ?_
        refine (c_X0_signAt l G Y _ _ _ _ _ _ _ _ _ f_b f_bv f_bs (inPl hn_b hq_36.1 hq_36.2)).callV F (cwV 1 hts gX4_sign_X0_signAt rfl rfl rfl (by decide +kernel) ⟨Nat.le_of_ble_eq_true rfl, Nat.le_of_ble_eq_true rfl⟩) hK hw hA (p_recv hK hw f_b rfl) rfl rfl hl.1 (Nat.le_of_ble_eq_true rfl) dX4_sign_59 ⟨Nat.le_of_ble_eq_true rfl, Nat.le_of_ble_eq_true rfl⟩ (fun r_59 h_59 H locs hp_59 hw => ?_)
        obtain ⟨eh_59, hp_59⟩ := hp_59
        rw [eh_59] at hw
        exact vx_ret (ct_lret hx hb hr hlocks hK hw dX4_sign_62 (Nat.le_of_ble_eq_true rfl) (Nat.le_of_ble_eq_true rfl) ⟨rfl, ⟨hq_1, hq_13⟩, hq_36, hp_59⟩)
      · refine lv_if_ne (tgt := 52) hx hb dX4_sign_39 (by decide) (fun c_39 => absurd rfl c_39) (fun c_39 => ?_)
        refine vx_throwS (own := RX4) (cls := nIOB) (text := "no such place") (names := nRun) (ik := 125) (is := 127) (ic := 129) (A := A) hx hb hl9 hown (by decide +kernel) (by decide +kernel) (hts _ hk125) (hts _ hi125) hsb (xat2 hts hE.1) xgood2 hE.2.2.2.1 hE.2.2.2.2 hw.2.2 (hl.1.trans hml.symm) dX4_sign_42 dX4_sign_45 dX4_sign_46 dX4_sign_48 dX4_sign_51 (fun x hx9 => (hex x hx9).elim) (Nat.le_of_ble_eq_true rfl) (Nat.le_of_ble_eq_true rfl) (Nat.le_of_ble_eq_true rfl) (Nat.le_of_ble_eq_true rfl) hlocks (fun t hvm hsz hq => ?_) hw.2.2.2.2 (Nat.le_of_ble_eq_true rfl) (Nat.le_of_ble_eq_true rfl)
        obtain ⟨w1, w2⟩ := wC_grow hK hw t hvm hsz hq
        exact ⟨2, trivial, ⟨Or.inr ⟨rfl, rfl, ⟨hq_1, hq_13⟩, hq_36⟩, w1⟩, w2⟩
  · refine lv_if_eq (tgt := 19) hx hb dX4_sign_4 (by decide) (fun c_4 => ?_) (fun c_4 => absurd rfl c_4)
    refine vx_throwS (own := RX4) (cls := nISE) (text := "no book lies there") (names := nRun) (ik := 118) (is := 120) (ic := 122) (A := A) hx hb hl9 hown (by decide +kernel) (by decide +kernel) (hts _ hk118) (hts _ hi118) hsa (xat1 hts hE.1) xgood1 hE.2.2.2.1 hE.2.2.2.2 hw.2.2 (hl.1.trans hml.symm) dX4_sign_19 dX4_sign_22 dX4_sign_23 dX4_sign_25 dX4_sign_28 (fun x hx9 => (hex x hx9).elim) (Nat.le_of_ble_eq_true rfl) (Nat.le_of_ble_eq_true rfl) (Nat.le_of_ble_eq_true rfl) (Nat.le_of_ble_eq_true rfl) hlocks (fun t hvm hsz hq => ?_) hw.2.2.2.2 (Nat.le_of_ble_eq_true rfl) (Nat.le_of_ble_eq_true rfl)
    obtain ⟨w1, w2⟩ := wC_grow hK hw t hvm hsz hq
    exact ⟨1, trivial, ⟨Or.inl ⟨rfl, rfl, fun z => hq_1 z.1⟩, w1⟩, w2⟩
/-- the law's sign: the world is its row of one long, and the class's heap -/
def wL (Y : Nat → ClassId) (o : Nat) (u : (Nat → Int64) × PH) : va_W := [(o, aJ Y 1 u.1)] ++ pw u.2
set_option maxHeartbeats 4000000 in
set_option maxRecDepth 100000 in
theorem c_L_sign (l : Launch) (hl9 : l.stackTraces = false) (G : va_G) (Y : Nat → ClassId) (h : PH) (o : Nat) (g : Nat → Int64) (ad dk : Nat → Nat) (BK : List Nat) (bS : Nat → Int32) (bN : Nat → Nat) (bV : Nat → Nat → Int64) (bT : Nat → Nat → Int32) (vA sA : Nat → Nat) (ink cop : Nat → Int32) (wai : Nat → Nat) (O : Nat → Nat → Ord) (nx he : Nat) (C : Nat → Nat → Int32) (tl : Nat → Int32) (p0 p1 : Int32) (hC : CRep Y h ad (dk, (BK, bS, bN, bV, bT, vA, sA), (ink, cop, wai, O), (nx, he, C), tl)) :
    ∀ sz, Met l yL_sign wsL_sign ({ frames := 7, cells := 1, slots := 6, locals := 140 } : Room) (xPre G Y [.ref (ad 0), .int p0, .int p1, .ref o] (wL Y o (g, h)) sz)
      (va_Qi (fun r u' => u'.2 = h ∧ (((isD p0 ∧ ¬ bS (dk (cl p0)) < 0) ∧ (¬ p1 < 0 ∧ ¬ nI (bN (dk (cl p0))) ≤ p1) ∧ r = 0 ∧ u'.1 0 = cSgn (bS (dk (cl p0))) (bV (dk (cl p0)) (cl p1)) (bT (dk (cl p0)) (cl p1))) ∨ (¬ (isD p0 ∧ ¬ bS (dk (cl p0)) < 0) ∧ r = 1) ∨ (((isD p0 ∧ ¬ bS (dk (cl p0)) < 0) ∧ ¬ (¬ p1 < 0 ∧ ¬ nI (bN (dk (cl p0))) ≤ p1)) ∧ r = 2))) (fun u' t => wC G Y (va_A (wL Y o (g, h)) sz) (wL Y o u') t) (va_A (wL Y o (g, h)) sz)) 1 6 (va_A (wL Y o (g, h)) sz) := by
  refine xofW (y := yL_sign) (wd := wsL_sign) (hh := [(0, 9, 12, 13), (0, 9, 16, 15)]) (cc := cL_sign) (maxL := 5) (ret := some .int) (rm := { frames := 7, cells := 1, slots := 6, locals := 140 }) (av := [.ref (ad 0), .int p0, .int p1, .ref o]) (Qc := fun A => va_Qi (fun r u' => u'.2 = h ∧ (((isD p0 ∧ ¬ bS (dk (cl p0)) < 0) ∧ (¬ p1 < 0 ∧ ¬ nI (bN (dk (cl p0))) ≤ p1) ∧ r = 0 ∧ u'.1 0 = cSgn (bS (dk (cl p0))) (bV (dk (cl p0)) (cl p1)) (bT (dk (cl p0)) (cl p1))) ∨ (¬ (isD p0 ∧ ¬ bS (dk (cl p0)) < 0) ∧ r = 1) ∨ (((isD p0 ∧ ¬ bS (dk (cl p0)) < 0) ∧ ¬ (¬ p1 < 0 ∧ ¬ nI (bN (dk (cl p0))) ≤ p1)) ∧ r = 2))) (fun u' t => wC G Y A (wL Y o u') t) A) (by decide +kernel) rfl (Nat.le_of_ble_eq_true rfl) ?_
  intro A p e s m below meth c ls hB hE htab
  obtain ⟨F, hr, hlocks, hnm, hK, hA, hw, hl⟩ := hB
  obtain ⟨hx, hb, hml, hown, hts⟩ := id F
  have hl : lv_has ls 5 [(0, .ref (ad 0)), (1, .int p0), (2, .int p1), (3, .ref o)] := hl
  have hw : wW G A s.heap ([(o, aJ Y 1 g)] ++ pw h) s.heap [] := hw
  have hk13 : Cond.classLink RL 13 nISE ∈ wsL_sign := by decide +kernel
  have hk15 : Cond.classLink RL 15 nIOB ∈ wsL_sign := by decide +kernel
  obtain ⟨f_x, -⟩ := id hC
  have f_x : pAt h (ad 0) (oX (ad 1) (ad 2) (ad 3) (ad 4) (ad 5) (ad 6)) := f_x
  have hcast := hE.1.use [Value.ref (ad 0), .int p0, .int p1, .ref o].toArray
  refine lv_aload_n hx hb dL_sign_0 rfl (lv_at hl 3 rfl) ?_
  refine lv_iconst (v := 0) hx hb dL_sign_1 (by decide) ?_
  refine lv_aload_n hx hb dL_sign_2 rfl (lv_at hl 0 rfl) ?_
  refine lv_iload_n hx hb dL_sign_3 rfl (lv_at hl 1 rfl) ?_
  refine lv_iload_n hx hb dL_sign_4 rfl (lv_at hl 2 rfl) ?_
  have hrecv : ∃ cell : Cell, s.heap[ad 0]? = some cell ∧ cell.vm.isStatics = false ∧ s.vm.findClass RX4 = some cell.cls := by
    obtain ⟨k, hk⟩ := f_x.get
    exact va_recv hK.1 (wW_split hw).1 (ci := 4) (q := (RX4, TX4, 6)) rfl hk
  have hrun := vx_runV (R := { frames := 7, cells := 1, slots := 6, locals := 140 }) F (c_X4_sign l hl9 G Y h ad dk BK bS bN bV bT vA sA ink cop wai O nx he C tl p0 p1 hC s.heap.size) (cwV 2 hts gL_sign_X4_sign rfl rfl rfl (by decide +kernel) ⟨Nat.le_of_ble_eq_true rfl, Nat.le_of_ble_eq_true rfl⟩) (b := ad 0) (As := [.int p0, .int p1]) (rest := [.int 0, .ref o]) (g := F0 m 5 ls [.int p1, .int p0, .ref (ad 0), .int 0, .ref o]) (p := p) (e := e) (m := m) (c := c) (below := below) (meth := meth) (locs := []) (cells := 0) (slots := 0) ⟨xPre_blind, hrecv, fun U hU hW => xPre_at hA hK hE hw U hU hW⟩ rfl rfl hl.1 rfl (lv_room (Nat.le_of_ble_eq_true rfl)) dL_sign_5 ⟨Nat.le_of_ble_eq_true rfl, Nat.le_of_ble_eq_true rfl⟩
  refine vx_calll hrun hw.2.2 (fun q _ h => wW_free hA hw q h) (wW_free hA hw) (fun q _ h => wW_free hA hw q h) (fun E ce q9 u t H1 locs1 ht hvm hp hBX hz1 hk1 hS hce hcv hcl => ?_) (fun r u t H1 locs1 ht hvm hp hB hz1 hk1 hS => ?_)
  · obtain ⟨hq, hBx⟩ := hBX
    have hw1 : wW G A s.heap (wL Y o (g, h)) H1 locs1 := wW_join hA hw hk1 (by rw [← ht]; exact hBx.1) hBx.2.2 hS
    rcases hq with ⟨rfl, rfl, hc⟩ | ⟨rfl, rfl, hc⟩
    · refine vx_catch (own := RL) (name := nISE) (E := nISE) (ce := ce) hown [] ⟨0, 9, 12, 13⟩ [⟨0, 9, 16, 15⟩] htab (fun z hz => absurd hz List.not_mem_nil) (by decide +kernel) (by decide) (hts _ hk13) (hcast _ (by decide +kernel)) hce hcv hcl ?_
      refine lv_astore (lv' := [(4, .ref _), (0, .ref _), (1, .int _), (2, .int _), (3, .ref _)]) hx hb dL_sign_12 hl (by decide) rfl (fun ls hl => ?_)
      refine lv_iconst (v := 1) hx hb dL_sign_14 (by decide) ?_
      exact ct_iret (wf := wL Y o) (u := (g, h)) hx hb hr (vp_nar_int _) hlocks hK hw1 dL_sign_15 (Nat.le_of_ble_eq_true rfl) (Nat.le_of_ble_eq_true rfl) ⟨rfl, Or.inr (Or.inl ⟨hc, rfl⟩)⟩
    · refine vx_catch (own := RL) (name := nIOB) (E := nIOB) (ce := ce) hown [⟨0, 9, 12, 13⟩] ⟨0, 9, 16, 15⟩ [] htab (fun z hz => ?_) (by decide +kernel) (by decide) (hts _ hk15) (hcast _ (by decide +kernel)) hce hcv hcl ?_
      · obtain rfl := List.mem_singleton.mp hz
        exact Or.inr ⟨by decide, nISE, hts _ hk13, hE.2.2.1⟩
      · refine lv_astore (lv' := [(4, .ref _), (0, .ref _), (1, .int _), (2, .int _), (3, .ref _)]) hx hb dL_sign_16 hl (by decide) rfl (fun ls hl => ?_)
        refine lv_iconst (v := 2) hx hb dL_sign_18 (by decide) ?_
        exact ct_iret (wf := wL Y o) (u := (g, h)) hx hb hr (vp_nar_int _) hlocks hK hw1 dL_sign_19 (Nat.le_of_ble_eq_true rfl) (Nat.le_of_ble_eq_true rfl) ⟨rfl, Or.inr (Or.inr ⟨hc, rfl⟩)⟩
  · obtain ⟨eu, hc1, hc2, er⟩ := hp
    have hw1 : wW G A s.heap (wL Y o (g, u)) H1 locs1 := wW_join hA hw hk1 (by rw [← ht]; exact hB.1) hB.2.2 hS
    rw [eu] at hw1
    have hw1 : wW G A s.heap ((o, aJ Y 1 g) :: pw h) H1 locs1 := hw1
    refine va_last F.1 F.2.1 hK.1 hw1.1 hw1.2.1 hw1.2.2 0 1 rfl rfl (vp_in_nI (n := 0) (by decide) (by decide)) dL_sign_8 (fun H2 locs2 hP2 hD2 hS2 => ?_)
    have hw2 : wW G A s.heap (wL Y o (vp_updL g (cl 0) r, h)) H2 locs2 := ⟨hP2, hD2, hS2⟩
    refine lv_goto (tgt := 20) hx hb dL_sign_9 (by decide) ?_
    refine lv_iconst (v := 0) hx hb dL_sign_20 (by decide) ?_
    exact ct_iret (wf := wL Y o) hx hb hr (vp_nar_int _) hlocks hK hw2 dL_sign_21 (Nat.le_of_ble_eq_true rfl) (Nat.le_of_ble_eq_true rfl) ⟨rfl, Or.inl ⟨hc1, hc2, rfl, er⟩⟩
