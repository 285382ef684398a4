/-! the law: its loop, its start -/
set_option maxHeartbeats 4000000 in
set_option maxRecDepth 100000 in
theorem lw_loop {p : Program} {l : Launch} {e : Env} {s : State} {m : MethodId} {below : List Frame} {meth : Method} {c : Code} {b L : Nat} {xs : Nat → Int32} {G : va_G} {Y : Nat → ClassId} {Q : State → Prop} {xm o : Nat} {adm ad : Nat → Nat} {H : Heap} {locs : List Loc} {cells slots : Nat} {ls : Array Slot} {g : Nat → Int64} {h : PH} {u : MS} (hl9 : l.stackTraces = false)
    (F : CallFix p m c cL_law 8 s #[Value.ref b] wsL_law RL) (hK : kK G Y s) (hX : va_X b L xs s s.heap) (hbl : b < s.heap.size) (hL : L ≤ 3584) (hE : xE (lA s) s s.heap) (hl : lv_has ls 8 (lwLv b (ad 0) xm o 0)) (hcells : cells ≤ 40) (hslots : slots ≤ 1000) (hO : sOut Y ad h u 0) (hw : wW G (lA s) s.heap (lW Y xm adm o u g h) H locs)
    (fin : ∀ (H' : Heap) (locs' : List Loc) (cells' slots' : Nat) (ls' : Array Slot), (∀ q ∈ locs', lA s q.base) → cells' ≤ 601024 → slots' ≤ 7293034 → W p l e room_1 s m #[Value.ref b] below meth c H' locs' cells' slots' Q (F0 m 815 ls' [])) : W p l e room_1 s m #[Value.ref b] below meth c H locs cells slots Q (F0 m 23 ls []) := by
  obtain ⟨hx, hb, hml, hown, hts⟩ := id F
  have hbA : ¬ lA s b := Nat.not_le.mpr hbl
  refine W_loopC (σ := Unit) 23 (fun n _ H locs ls cells slots => ∃ (k : Nat) (u : MS) (g : Nat → Int64) (h : PH), n + k = 512 ∧ sOut Y ad h u (3 * k) ∧ wW G (lA s) s.heap (lW Y xm adm o u g h) H locs ∧ lv_has ls 8 (lwLv b (ad 0) xm o k) ∧ cells ≤ 40 + 6 * k ∧ slots ≤ 1000 + 200 * k) ?_ (n := 512) (x := ()) ⟨0, u, g, h, rfl, hO, hw, hl, by omega, by omega⟩
  intro n _ H locs ls cells slots hI ih
  obtain ⟨k, u, g, h, hn, ⟨cs, hC, hS⟩, hw, hl, hcells, hslots⟩ := hI
  obtain ⟨dk, ⟨BK, bS, bN, bV, bT, vA, sA⟩, ⟨ink, cop, wai, O⟩, ⟨nx, he, C⟩, tl⟩ := cs
  obtain ⟨d, sc, sz, sg, ik, cp, wt, wa, ch, ct, th⟩ := u
  refine lv_iload hx hb dL_law_23 (lv_at hl 0 rfl) ?_
  refine lv_aload_n hx hb dL_law_25 rfl (lv_at hl 4 rfl) ?_
  refine va_slen hx hb hX hbl hbA hw.2.2 dL_law_26 ?_
  refine lv_bipush (v := 7) hx hb dL_law_27 (by decide) ?_
  refine lv_isub hx hb dL_law_29 ?_
  refine lv_icmp_gt (tgt := 815) hx hb dL_law_30 (by decide) (fun c30 => fin H locs cells slots ls hw.2.2.2.2 (by omega) (by omega)) (fun c30 => ?_)
  have hk : 7 * k + 7 ≤ L := by
    have c31 : ¬ nI L - 7 < nI (7 * k) := c30
    have e1 : (nI L - 7).toInt = (L : Int) - 7 := by
      rw [Int32.toInt_sub, nI_toInt (by omega), show (7 : Int32).toInt = 7 from rfl]
      apply Int.bmod_eq_of_le <;> omega
    rw [Int32.lt_iff_toInt_lt, e1, nI_toInt (by omega)] at c31
    omega
  refine lv_aload_n hx hb dL_law_33 rfl (lv_at hl 4 rfl) ?_
  refine lv_iload hx hb dL_law_34 (lv_at hl 0 rfl) ?_
  refine va_sld hx hb hX hbl hbA hw.2.2 (vp_in_nI (by omega) (by omega)) dL_law_36 ?_
  refine lv_bipush (v := 15) hx hb dL_law_37 (by decide) ?_
  refine lv_iand hx hb dL_law_39 ?_
  obtain ⟨j, hj, ej⟩ := pk_andE (xs (nI (7 * k)).toNatClampNeg) (m := 15) 4 (by decide)
  rw [ej]
  have tail : ∀ (u' : MS) (g' : Nat → Int64) (h' : PH) (H' : Heap) (locs' : List Loc) (cells' slots' : Nat) (ls' : Array Slot), sOut Y ad h' u' (3 * k + 3) → wW G (lA s) s.heap (lW Y xm adm o u' g' h') H' locs' → lv_has ls' 8 (lwLv b (ad 0) xm o k) → cells' ≤ 46 + 6 * k → slots' ≤ 1200 + 200 * k → W p l e room_1 s m #[Value.ref b] below meth c H' locs' cells' slots' Q (F0 m 809 ls' []) := by
    intro u' g' h' H' locs' cells' slots' ls' hout hw' hl' hc' hs'
    refine lv_iinc (k := 0) (v := nI (7 * (k + 1))) (lv' := lwLv b (ad 0) xm o (k + 1)) hx hb dL_law_809 hl' rfl ?_ (by decide) rfl (fun ls9 hl9 => ?_)
    · rw [show Int32.ofInt 7 = nI 7 from rfl, nI_add]
      congr 1
    · exact lv_goto (tgt := 23) hx hb dL_law_812 (by decide) (ih (n - 1) () H' locs' ls9 cells' slots' (by omega) ⟨k + 1, u', g', h', by omega, hout, hw', hl9, by omega, by omega⟩)
  have h16 : j = 0 ∨ j = 1 ∨ j = 2 ∨ j = 3 ∨ j = 4 ∨ j = 5 ∨ j = 6 ∨ j = 7 ∨ j = 8 ∨ j = 9 ∨ j = 10 ∨ j = 11 ∨ j = 12 ∨ j = 13 ∨ j = 14 ∨ j = 15 := by omega
  rcases h16 with rfl | rfl | rfl | rfl | rfl | rfl | rfl | rfl | rfl | rfl | rfl | rfl | rfl | rfl | rfl | rfl
  · exact lv_tableIn (off := 76) (tgt := 116) hx hb dL_law_40 (by decide +kernel) (by decide +kernel) (by decide +kernel) (by decide) (lw_bind F hK hX hbl hk hL hl hcells hslots hC hS hw tail)
  · exact lv_tableIn (off := 125) (tgt := 165) hx hb dL_law_40 (by decide +kernel) (by decide +kernel) (by decide +kernel) (by decide) (lw_stone F hK hX hbl hk hL hl hcells hslots hC hS hw tail)
  · exact lv_tableIn (off := 150) (tgt := 190) hx hb dL_law_40 (by decide +kernel) (by decide +kernel) (by decide +kernel) (by decide) (lw_share F hK hX hbl hk hL hl hcells hslots hC hS hw tail)
  · exact lv_tableIn (off := 187) (tgt := 227) hx hb dL_law_40 (by decide +kernel) (by decide +kernel) (by decide +kernel) (by decide) (lw_clear F hK hX hbl hk hL hl hcells hslots hC hS hw tail)
  · exact lv_tableIn (off := 212) (tgt := 252) hx hb dL_law_40 (by decide +kernel) (by decide +kernel) (by decide +kernel) (by decide) (lw_write F hK hX hbl hk hL hl hcells hslots hC hS hw tail)
  · exact lv_tableIn (off := 305) (tgt := 345) hx hb dL_law_40 (by decide +kernel) (by decide +kernel) (by decide +kernel) (by decide) (lw_copy F hK hX hbl hk hL hl hcells hslots hC hS hw tail)
  · exact lv_tableIn (off := 392) (tgt := 432) hx hb dL_law_40 (by decide +kernel) (by decide +kernel) (by decide +kernel) (by decide) (lw_order F hK hX hbl hk hL hl hcells hslots hC hS hw tail)
  · exact lv_tableIn (off := 479) (tgt := 519) hx hb dL_law_40 (by decide +kernel) (by decide +kernel) (by decide +kernel) (by decide) (lw_day F hK hX hbl hk hL hl hcells hslots hC hS hw tail)
  · exact lv_tableIn (off := 492) (tgt := 532) hx hb dL_law_40 (by decide +kernel) (by decide +kernel) (by decide +kernel) (by decide) (lw_fill F hK hX hbl hk hL hl hcells hslots hC hS hw tail)
  · exact lv_tableIn (off := 529) (tgt := 569) hx hb dL_law_40 (by decide +kernel) (by decide +kernel) (by decide +kernel) (by decide) (lw_scribe F hK hX hbl hk hL hl hcells hslots hC hS hw tail)
  · exact lv_tableIn (off := 566) (tgt := 606) hx hb dL_law_40 (by decide +kernel) (by decide +kernel) (by decide +kernel) (by decide) (lw_sign hl9 F hK hX hbl hk hL hl hcells hslots hC hS hw tail hE)
  · exact lv_tableIn (off := 633) (tgt := 673) hx hb dL_law_40 (by decide +kernel) (by decide +kernel) (by decide +kernel) (by decide) (lw_book F hK hX hbl hk hL hl hcells hslots hC hS hw tail)
  · exact lv_tableIn (off := 670) (tgt := 710) hx hb dL_law_40 (by decide +kernel) (by decide +kernel) (by decide +kernel) (by decide) (lw_differ F hK hX hbl hk hL hl hcells hslots hC hS hw tail)
  · exact lv_tableIn (off := 707) (tgt := 747) hx hb dL_law_40 (by decide +kernel) (by decide +kernel) (by decide +kernel) (by decide) (lw_chronicle F hK hX hbl hk hL hl hcells hslots hC hS hw tail)
  · exact lv_tableIn (off := 744) (tgt := 784) hx hb dL_law_40 (by decide +kernel) (by decide +kernel) (by decide +kernel) (by decide) (lw_count F hK hX hbl hk hL hl hcells hslots hC hS hw tail)
  · exact lv_tableOut (tgt := 809) hx hb dL_law_40 (Or.inr (by decide +kernel)) (by decide) (tail _ g h H locs cells slots ls (sOut.up ⟨_, hC, hS⟩ (by omega)) hw hl (by omega) (by omega))
/-- the tables' words of the classes -/
theorem ar1 {args : Array Value} {s : State} {ty : FieldType} (hty : ∀ n, ty ≠ .object n) (h : (Cond.arrayClass ty).before args s = true) : ∃ cA : ClassId, ArrOfT s cA ty ∧ va_RA s cA ty := by
  obtain ⟨cA, kA, comp, h1, h2, h3⟩ := Cond.arrayClass_spec h
  refine ⟨cA, fun N z => ⟨(fun k h => by cases h), kA, h2, comp, h3⟩, ?_⟩
  cases ty with
  | object n => exact absurd rfl (hty n)
  | _ => exact h1
theorem ar2 {args : Array Value} {s : State} {n : String} (h : (Cond.arrayOver (.object n)).before args s = true) : ∃ cA : ClassId, ArrOfT s cA (.object n) ∧ va_RA s cA (.object n) := by
  obtain ⟨comp, cA, kA, h1, h2, h3, h4, h5⟩ := Cond.arrayOver_spec h
  exact ⟨cA, fun N z => ⟨(fun k h => by cases h), kA, h3, comp, h4⟩, kA, comp, h3, h4, h1, h5⟩
set_option maxHeartbeats 4000000 in
set_option maxRecDepth 100000 in
theorem kK_start {b : Nat} {s : State} (hts : ∀ w ∈ lw_tbl, w.before #[Value.ref b] s = true) : ∃ (G : va_G) (Y : Nat → ClassId), kK G Y s := by
  have hw : ∀ w ∈ wsL_law, w.before #[Value.ref b] s = true := fun w h => hts w (wsL_law_in w h)
  obtain ⟨c0, i0, k0⟩ := u_known (C := RX0) (T := TX0) (N := 3) (n := 3) hw (by decide +kernel) (hw (.instantiable RX0 3) (by decide +kernel))
  obtain ⟨c1, i1, k1⟩ := u_known (C := RX1) (T := TX1) (N := 6) (n := 6) hw (by decide +kernel) (hw (.instantiable RX1 6) (by decide +kernel))
  obtain ⟨c2, i2, k2⟩ := u_known (C := RX2) (T := TX2) (N := 6) (n := 6) hw (by decide +kernel) (hw (.instantiable RX2 6) (by decide +kernel))
  obtain ⟨c3, i3, k3⟩ := u_known (C := RX3) (T := TX3) (N := 4) (n := 4) hw (by decide +kernel) (hw (.instantiable RX3 4) (by decide +kernel))
  obtain ⟨c4, i4, k4⟩ := u_known (C := RX4) (T := TX4) (N := 6) (n := 6) hw (by decide +kernel) (hw (.instantiable RX4 6) (by decide +kernel))
  obtain ⟨c5, i5, k5⟩ := u_known (C := RX5) (T := TX5) (N := 11) (n := 11) hw (by decide +kernel) (hw (.instantiable RX5 11) (by decide +kernel))
  obtain ⟨y0, a0, r0⟩ := ar1 (fun _ h => by cases h) (hw (.arrayClass .int) (by decide +kernel))
  obtain ⟨y1, a1, r1⟩ := ar1 (fun _ h => by cases h) (hw (.arrayClass .long) (by decide +kernel))
  have o0 := hts (.arrayOver (.object RX0)) (by decide +kernel)
  have o2 := hts (.arrayOver (.object RX2)) (by decide +kernel)
  have o3 := hts (.arrayOver (.object RX3)) (by decide +kernel)
  obtain ⟨y2, a2, r2⟩ := ar2 o0
  obtain ⟨y3, a3, r3⟩ := ar2 o2
  obtain ⟨y4, a4, r4⟩ := ar2 o3
  refine ⟨(fun k => if k = 0 then c0 else if k = 1 then c1 else if k = 2 then c2 else if k = 3 then c3 else if k = 4 then c4 else c5, fun k => if k = 0 then i0 else if k = 1 then i1 else if k = 2 then i2 else if k = 3 then i3 else if k = 4 then i4 else i5), fun k => if k = 0 then y0 else if k = 1 then y1 else if k = 2 then y2 else if k = 3 then y3 else y4, ⟨fun k q hq => ?_, fun k q hq => ?_⟩, va_AO.of o0, va_AO.of o2, va_AO.of o3⟩
  · match k, hq with
    | 0, hq => cases hq; exact k0
    | 1, hq => cases hq; exact k1
    | 2, hq => cases hq; exact k2
    | 3, hq => cases hq; exact k3
    | 4, hq => cases hq; exact k4
    | 5, hq => cases hq; exact k5
    | k + 6, hq => simp [vwCl] at hq
  · match k, hq with
    | 0, hq => cases hq; exact ⟨a0, r0⟩
    | 1, hq => cases hq; exact ⟨a1, r1⟩
    | 2, hq => cases hq; exact ⟨a2, r2⟩
    | 3, hq => cases hq; exact ⟨a3, r3⟩
    | 4, hq => cases hq; exact ⟨a4, r4⟩
    | k + 5, hq => simp [kT] at hq
set_option maxHeartbeats 4000000 in
set_option maxRecDepth 100000 in
theorem xE_start {b : Nat} {s : State} (hts : ∀ w ∈ lw_tbl, w.before #[Value.ref b] s = true) (hgv : (Jvm.Cond.and given_1 narrow_1).before #[Value.ref b] s = true) : xE (lA s) s s.heap := by
  have hs := flat_of_before _ hgv
  have hA : ∀ a : Nat, a < s.heap.size → ¬ lA s a := fun a h => Nat.not_le.mpr h
  have str : ∀ (k : Nat) (tx : String), (Cond.stringRef RX4 k tx).before #[Value.ref b] s = true → (Cond.exactly (.string RX4 k) "java/lang/String").before #[Value.ref b] s = true → ∃ sa : Nat, vk_R RX4 k tx sa s := fun k tx h1 h2 => by
    obtain ⟨a, c, cA, kA, q1, -⟩ := Cond.exactly_spec (args := #[Value.ref b]) (first := s) (o := none) (s := s) (idx := []) (t := .string RX4 k) (cls := "java/lang/String") h2
    exact ⟨a, vk_R.of h1 q1⟩
  obtain ⟨sa, ha⟩ := str 120 "no book lies there" (hts _ (by decide +kernel)) (hs _ (by decide +kernel))
  obtain ⟨sb, hb⟩ := str 127 "no such place" (hts _ (by decide +kernel)) (hs _ (by decide +kernel))
  refine ⟨fun w hw => va_tabs (xN_ot w hw) rfl (hts w ((show ∀ w ∈ xN, w ∈ lw_tbl by decide +kernel) w hw)), ⟨sa, sb, ha, hb⟩, va_Nc.of (hs (.not (.castable nIOB nISE)) (by decide +kernel)), ?_, ?_⟩
  · exact vx_Zqof (hts _ (by decide +kernel)) (hts _ (by decide +kernel)) (hs _ (by decide +kernel)) hA
  · exact vx_Zqof (hts _ (by decide +kernel)) (hts _ (by decide +kernel)) (hs _ (by decide +kernel)) hA
