set_option maxHeartbeats 4000000 in
set_option maxRecDepth 100000 in
theorem c_X0_init (l : Launch) (G : va_G) (Y : Nat → ClassId) (h : PH) (b : Nat) (sc : Int32) (n : Nat) (f_b : pAt h b (.inr (0, [.int 0, .null, .null]))) (hn : n ≤ 40) : ctV l G Y pw yX0_init wsX0_init ({ frames := 1, cells := 2, slots := 80, locals := 20 }) [.ref b, .int sc, .int (nI n)] h (fun h' => ∃ v so, pAt h' b (oBook sc v so) ∧ pAt h' v (aJ Y n (fun _ => 0)) ∧ pAt h' so (aI Y n (fun _ => 0)) ∧ pFr h h' [b] ∧ ∀ a e, pAt h a e → a ≠ v ∧ a ≠ so) := by
  refine ctV.of (cc := cX0_init) (maxL := 3) (ret := none) (by decide +kernel) rfl (Nat.le_of_ble_eq_true rfl) ?_
  intro A p e s m below meth c ls hB
  obtain ⟨F, hr, hlocks, hnm, hK, hA, hw, hl⟩ := hB
  obtain ⟨hx, hb, hml, hown, hts⟩ := id F
  have hl : lv_has ls 3 [(0, .ref b), (1, .int sc), (2, .int (nI n))] := hl
  have hi0 : ∀ w ∈ wsX00, w ∈ wsX0_init := by decide +kernel
  have hl9 : Cond.fieldLink RX0 9 "Scriptorium$Book" "script" "I" ∈ wsX0_init := by decide +kernel
  have hl15 : Cond.fieldLink RX0 15 "Scriptorium$Book" "values" "[J" ∈ wsX0_init := by decide +kernel
  have hl19 : Cond.fieldLink RX0 19 "Scriptorium$Book" "sorts" "[I" ∈ wsX0_init := by decide +kernel
  refine lv_aload_n hx hb dX0_init_0 rfl (lv_at hl 0 rfl) ?_
  refine W.objInit hx hb hown (hts (.methodLink RX0 3 objectInit) (by decide +kernel)) (hts (.instanceMethod objectInit) (by decide +kernel)) (hts (.code objectInit ⟨#[0xb1]⟩ 1 none) (by decide +kernel)) rfl (by rw [hml]; exact hl.1) rfl dX0_init_1 (Nat.le_of_ble_eq_true rfl) (Nat.le_of_ble_eq_true rfl) ?_
  refine W.eq (g2 := F0 m 4 ls []) rfl ?_
  refine lv_aload_n hx hb dX0_init_4 rfl (lv_at hl 0 rfl) ?_
  refine lv_iload_n hx hb dX0_init_5 rfl (lv_at hl 1 rfl) ?_
  have f_b_0 := f_b
  refine q_putF (fs' := [_, _, _]) (ci := 0) (C := RX0) (T := TX0) (N := 3) (ty0 := tyX0) (ty := .int) 0 F rfl hi0 tyX0_ok nmX0 hl9 (by decide) rfl hnm rfl (by decide +kernel) rfl rfl (Nat.le_of_ble_eq_true rfl) hK hw f_b rfl dX0_init_6 (fun h_6 H locs f_b fr_6 hw => ?_)
  refine lv_aload_n hx hb dX0_init_9 rfl (lv_at hl 0 rfl) ?_
  refine lv_iload_n hx hb dX0_init_10 rfl (lv_at hl 2 rfl) ?_
  refine q_newJ (N' := n) F (by decide +kernel) hK hw hA (nI_pos (by omega)) (nI_clamp (by omega)) (by omega) (Nat.le_of_ble_eq_true rfl) (by show 0 + n ≤ 80; omega) dX0_init_11 (fun q_11 h_11 H f_v fr_11 nq_11 hw => ?_)
  have n_b_v := nq_11 _ _ f_b
  have f_b := fr_11.none f_b
  have f_b_0 := f_b
  refine q_putF (fs' := [_, _, _]) (ci := 0) (C := RX0) (T := TX0) (N := 3) (ty0 := tyX0) (ty := .array .long) 1 F rfl hi0 tyX0_ok nmX0 hl15 (by decide) rfl hnm rfl (by decide +kernel) rfl rfl (Nat.le_of_ble_eq_true rfl) hK hw f_b rfl dX0_init_13 (fun h_13 H locs f_b fr_13 hw => ?_)
  have f_v := fr_13.one f_v n_b_v.symm
  refine lv_aload_n hx hb dX0_init_16 rfl (lv_at hl 0 rfl) ?_
  refine lv_iload_n hx hb dX0_init_17 rfl (lv_at hl 2 rfl) ?_
  refine q_newI (N' := n) F (by decide +kernel) hK hw hA (nI_pos (by omega)) (nI_clamp (by omega)) (by omega) (Nat.le_of_ble_eq_true rfl) (by show 0 + n + n ≤ 80; omega) dX0_init_18 (fun q_18 h_18 H f_s fr_18 nq_18 hw => ?_)
  have n_b_s := nq_18 _ _ f_b
  have n_v_s := nq_18 _ _ f_v
  have f_b := fr_18.none f_b
  have f_v := fr_18.none f_v
  have f_b_0 := f_b
  refine q_putF (fs' := [_, _, _]) (ci := 0) (C := RX0) (T := TX0) (N := 3) (ty0 := tyX0) (ty := .array .int) 2 F rfl hi0 tyX0_ok nmX0 hl19 (by decide) rfl hnm rfl (by decide +kernel) rfl rfl (Nat.le_of_ble_eq_true rfl) hK hw f_b rfl dX0_init_20 (fun h_20 H locs f_b fr_20 hw => ?_)
  have f_v := fr_20.one f_v n_b_v.symm
  have f_s := fr_20.one f_s n_b_s.symm
  exact ct_vret hx hb hr hlocks hK hw dX0_init_23 (Nat.le_of_ble_eq_true rfl) (by show 0 + n + n ≤ 80; omega) ⟨_, _, f_b, f_v, f_s, (fr_6.trans (fr_11.trans (fr_13.trans (fr_18.trans (fr_20))))).mono (by simp), fun a e q => by
    by_cases z : a = b
    · exact ⟨z ▸ n_b_v, z ▸ n_b_s⟩
    · have q1 := fr_6.one q z
      exact ⟨nq_11 _ _ q1, nq_18 _ _ (fr_13.one (fr_11.none q1) z)⟩⟩

set_option maxHeartbeats 4000000 in
set_option maxRecDepth 100000 in
theorem c_X2_init (l : Launch) (G : va_G) (Y : Nat → ClassId) (h : PH) (q : Nat) (p0 p1 p2 p3 p4 p5 : Int32) (f_q : pAt h q (.inr (2, [.int 0, .int 0, .int 0, .int 0, .int 0, .int 0]))) : ctV l G Y pw yX2_init wsX2_init ({ frames := 1, cells := 0, slots := 0, locals := 20 }) [.ref q, .int p0, .int p1, .int p2, .int p3, .int p4, .int p5] h (fun h' => pFr h h' [q] ∧ pAt h' q (oPas p0 p1 p2 p3 p4 p5)) := by
  refine ctV.of (cc := cX2_init) (maxL := 7) (ret := none) (by decide +kernel) rfl (Nat.le_of_ble_eq_true rfl) ?_
  intro A p e s m below meth c ls hB
  obtain ⟨F, hr, hlocks, hnm, hK, hA, hw, hl⟩ := hB
  obtain ⟨hx, hb, hml, hown, hts⟩ := id F
  have hl : lv_has ls 7 [(0, .ref q), (1, .int p0), (2, .int p1), (3, .int p2), (4, .int p3), (5, .int p4), (6, .int p5)] := hl
  have hi2 : ∀ w ∈ wsX20, w ∈ wsX2_init := by decide +kernel
  have hl7 : Cond.fieldLink RX2 7 "Scriptorium$Passage" "scribe" "I" ∈ wsX2_init := by decide +kernel
  have hl13 : Cond.fieldLink RX2 13 "Scriptorium$Passage" "a" "I" ∈ wsX2_init := by decide +kernel
  have hl16 : Cond.fieldLink RX2 16 "Scriptorium$Passage" "i" "I" ∈ wsX2_init := by decide +kernel
  have hl19 : Cond.fieldLink RX2 19 "Scriptorium$Passage" "b" "I" ∈ wsX2_init := by decide +kernel
  have hl22 : Cond.fieldLink RX2 22 "Scriptorium$Passage" "j" "I" ∈ wsX2_init := by decide +kernel
  have hl25 : Cond.fieldLink RX2 25 "Scriptorium$Passage" "n" "I" ∈ wsX2_init := by decide +kernel
  refine lv_aload_n hx hb dX2_init_0 rfl (lv_at hl 0 rfl) ?_
  refine W.objInit hx hb hown (hts (.methodLink RX2 1 objectInit) (by decide +kernel)) (hts (.instanceMethod objectInit) (by decide +kernel)) (hts (.code objectInit ⟨#[0xb1]⟩ 1 none) (by decide +kernel)) rfl (by rw [hml]; exact hl.1) rfl dX2_init_1 (Nat.le_of_ble_eq_true rfl) (Nat.le_of_ble_eq_true rfl) ?_
  refine W.eq (g2 := F0 m 4 ls []) rfl ?_
  refine lv_aload_n hx hb dX2_init_4 rfl (lv_at hl 0 rfl) ?_
  refine lv_iload_n hx hb dX2_init_5 rfl (lv_at hl 1 rfl) ?_
  have f_q_0 := f_q
  refine q_putF (fs' := [_, _, _, _, _, _]) (ci := 2) (C := RX2) (T := TX2) (N := 6) (ty0 := tyX2) (ty := .int) 0 F rfl hi2 tyX2_ok nmX2 hl7 (by decide) rfl hnm rfl (by decide +kernel) rfl rfl (Nat.le_of_ble_eq_true rfl) hK hw f_q rfl dX2_init_6 (fun h_6 H locs f_q fr_6 hw => ?_)
  refine lv_aload_n hx hb dX2_init_9 rfl (lv_at hl 0 rfl) ?_
  refine lv_iload_n hx hb dX2_init_10 rfl (lv_at hl 2 rfl) ?_
  have f_q_0 := f_q
  refine q_putF (fs' := [_, _, _, _, _, _]) (ci := 2) (C := RX2) (T := TX2) (N := 6) (ty0 := tyX2) (ty := .int) 1 F rfl hi2 tyX2_ok nmX2 hl13 (by decide) rfl hnm rfl (by decide +kernel) rfl rfl (Nat.le_of_ble_eq_true rfl) hK hw f_q rfl dX2_init_11 (fun h_11 H locs f_q fr_11 hw => ?_)
  refine lv_aload_n hx hb dX2_init_14 rfl (lv_at hl 0 rfl) ?_
  refine lv_iload_n hx hb dX2_init_15 rfl (lv_at hl 3 rfl) ?_
  have f_q_0 := f_q
  refine q_putF (fs' := [_, _, _, _, _, _]) (ci := 2) (C := RX2) (T := TX2) (N := 6) (ty0 := tyX2) (ty := .int) 2 F rfl hi2 tyX2_ok nmX2 hl16 (by decide) rfl hnm rfl (by decide +kernel) rfl rfl (Nat.le_of_ble_eq_true rfl) hK hw f_q rfl dX2_init_16 (fun h_16 H locs f_q fr_16 hw => ?_)
  refine lv_aload_n hx hb dX2_init_19 rfl (lv_at hl 0 rfl) ?_
  refine lv_iload hx hb dX2_init_20 (lv_at hl 4 rfl) ?_
  have f_q_0 := f_q
  refine q_putF (fs' := [_, _, _, _, _, _]) (ci := 2) (C := RX2) (T := TX2) (N := 6) (ty0 := tyX2) (ty := .int) 3 F rfl hi2 tyX2_ok nmX2 hl19 (by decide) rfl hnm rfl (by decide +kernel) rfl rfl (Nat.le_of_ble_eq_true rfl) hK hw f_q rfl dX2_init_22 (fun h_22 H locs f_q fr_22 hw => ?_)
  refine lv_aload_n hx hb dX2_init_25 rfl (lv_at hl 0 rfl) ?_
  refine lv_iload hx hb dX2_init_26 (lv_at hl 5 rfl) ?_
  have f_q_0 := f_q
  refine q_putF (fs' := [_, _, _, _, _, _]) (ci := 2) (C := RX2) (T := TX2) (N := 6) (ty0 := tyX2) (ty := .int) 4 F rfl hi2 tyX2_ok nmX2 hl22 (by decide) rfl hnm rfl (by decide +kernel) rfl rfl (Nat.le_of_ble_eq_true rfl) hK hw f_q rfl dX2_init_28 (fun h_28 H locs f_q fr_28 hw => ?_)
  refine lv_aload_n hx hb dX2_init_31 rfl (lv_at hl 0 rfl) ?_
  refine lv_iload hx hb dX2_init_32 (lv_at hl 6 rfl) ?_
  have f_q_0 := f_q
  refine q_putF (fs' := [_, _, _, _, _, _]) (ci := 2) (C := RX2) (T := TX2) (N := 6) (ty0 := tyX2) (ty := .int) 5 F rfl hi2 tyX2_ok nmX2 hl25 (by decide) rfl hnm rfl (by decide +kernel) rfl rfl (Nat.le_of_ble_eq_true rfl) hK hw f_q rfl dX2_init_34 (fun h_34 H locs f_q fr_34 hw => ?_)
  exact ct_vret hx hb hr hlocks hK hw dX2_init_37 (Nat.le_of_ble_eq_true rfl) (Nat.le_of_ble_eq_true rfl) ⟨(fr_6.trans (fr_11.trans (fr_16.trans (fr_22.trans (fr_28.trans (fr_34)))))).mono (by simp), f_q⟩

set_option maxHeartbeats 4000000 in
set_option maxRecDepth 100000 in
theorem c_X3_init (l : Launch) (G : va_G) (Y : Nat → ClassId) (h : PH) (q : Nat) (f_q : pAt h q (.inr (3, [.int 0, .int 0, .int 0, .null]))) : ctV l G Y pw yX3_init wsX3_init ({ frames := 1, cells := 1, slots := 8, locals := 20 }) [.ref q] h (fun h' => ∃ od, pAt h' q (oScr 100 0 0 od) ∧ pAt h' od (aP Y 8 (fun _ => none)) ∧ pFr h h' [q] ∧ ∀ a e, pAt h a e → a ≠ od) := by
  refine ctV.of (cc := cX3_init) (maxL := 1) (ret := none) (by decide +kernel) rfl (Nat.le_of_ble_eq_true rfl) ?_
  intro A p e s m below meth c ls hB
  obtain ⟨F, hr, hlocks, hnm, hK, hA, hw, hl⟩ := hB
  obtain ⟨hx, hb, hml, hown, hts⟩ := id F
  have hl : lv_has ls 1 [(0, .ref q)] := hl
  have hi3 : ∀ w ∈ wsX30, w ∈ wsX3_init := by decide +kernel
  have hl9 : Cond.fieldLink RX3 9 "Scriptorium$Scribe" "ink" "I" ∈ wsX3_init := by decide +kernel
  have hl17 : Cond.fieldLink RX3 17 "Scriptorium$Scribe" "orders" "[LScriptorium$Passage;" ∈ wsX3_init := by decide +kernel
  refine lv_aload_n hx hb dX3_init_0 rfl (lv_at hl 0 rfl) ?_
  refine W.objInit hx hb hown (hts (.methodLink RX3 3 objectInit) (by decide +kernel)) (hts (.instanceMethod objectInit) (by decide +kernel)) (hts (.code objectInit ⟨#[0xb1]⟩ 1 none) (by decide +kernel)) rfl (by rw [hml]; exact hl.1) rfl dX3_init_1 (Nat.le_of_ble_eq_true rfl) (Nat.le_of_ble_eq_true rfl) ?_
  refine W.eq (g2 := F0 m 4 ls []) rfl ?_
  refine lv_aload_n hx hb dX3_init_4 rfl (lv_at hl 0 rfl) ?_
  refine lv_bipush (v := 100) hx hb dX3_init_5 (by decide) ?_
  have f_q_0 := f_q
  refine q_put (fs' := [_, _, _, _]) (ci := 3) (C := RX3) (T := TX3) (N := 4) (ty0 := tyX3) (ty := .int) 0 F rfl hi3 tyX3_ok nmX3 hl9 (by decide) rfl (by decide +kernel) rfl rfl (Nat.le_of_ble_eq_true rfl) hK hw f_q rfl dX3_init_7 (fun h_7 H locs f_q fr_7 hw => ?_)
  refine lv_aload_n hx hb dX3_init_10 rfl (lv_at hl 0 rfl) ?_
  refine lv_bipush (v := 8) hx hb dX3_init_11 (by decide) ?_
  refine q_newA (C := RX2) (N' := 8) 3 F rfl (by decide +kernel) hK.2.2.1 hK hw hA (by decide) rfl (by decide) (Nat.le_of_ble_eq_true rfl) (Nat.le_of_ble_eq_true rfl) dX3_init_13 (fun q_13 h_13 H f_o fr_13 nq_13 hw => ?_)
  have n_q_o := nq_13 _ _ f_q
  have f_q := fr_13.none f_q
  have f_q_0 := f_q
  refine q_putF (fs' := [_, _, _, _]) (ci := 3) (C := RX3) (T := TX3) (N := 4) (ty0 := tyX3) (ty := .array (.object "Scriptorium$Passage")) 3 F rfl hi3 tyX3_ok nmX3 hl17 (by decide) rfl hnm rfl (by decide +kernel) rfl rfl (Nat.le_of_ble_eq_true rfl) hK hw f_q rfl dX3_init_16 (fun h_16 H locs f_q fr_16 hw => ?_)
  have f_o := fr_16.one f_o n_q_o.symm
  exact ct_vret hx hb hr hlocks hK hw dX3_init_19 (Nat.le_of_ble_eq_true rfl) (Nat.le_of_ble_eq_true rfl) ⟨_, f_q, f_o, (fr_7.trans (fr_13.trans (fr_16))).mono (by simp), fun a e z => by
    by_cases w : a = q
    · exact w ▸ n_q_o
    · exact nq_13 _ _ (fr_7.one z w)⟩

set_option maxHeartbeats 4000000 in
set_option maxRecDepth 100000 in
theorem c_X1_init (l : Launch) (G : va_G) (Y : Nat → ClassId) (h : PH) (q : Nat) (f_q : pAt h q (.inr (1, [.null, .null, .null, .null, .int 0, .int 0]))) : ctV l G Y pw yX1_init wsX1_init ({ frames := 1, cells := 4, slots := 64, locals := 20 }) [.ref q] h (fun h' => ∃ ad : Nat → Nat, pAt h' q (oChr (ad 0) (ad 1) (ad 2) (ad 3) 0 0) ∧ (∀ k, k < 4 → pAt h' (ad k) (aI Y 16 (fun _ => 0))) ∧ (∀ i j, i < 4 → j < 4 → ad i = ad j → i = j) ∧ pFr h h' [q] ∧ ∀ a e, pAt h a e → ∀ k, k < 4 → a ≠ ad k) := by
  refine ctV.of (cc := cX1_init) (maxL := 1) (ret := none) (by decide +kernel) rfl (Nat.le_of_ble_eq_true rfl) ?_
  intro A p e s m below meth c ls hB
  obtain ⟨F, hr, hlocks, hnm, hK, hA, hw, hl⟩ := hB
  obtain ⟨hx, hb, hml, hown, hts⟩ := id F
  have hl : lv_has ls 1 [(0, .ref q)] := hl
  have hi1 : ∀ w ∈ wsX10, w ∈ wsX1_init := by decide +kernel
  have hl9 : Cond.fieldLink RX1 9 "Scriptorium$Chronicle" "scribeNumbers" "[I" ∈ wsX1_init := by decide +kernel
  have hl15 : Cond.fieldLink RX1 15 "Scriptorium$Chronicle" "sources" "[I" ∈ wsX1_init := by decide +kernel
  have hl18 : Cond.fieldLink RX1 18 "Scriptorium$Chronicle" "targets" "[I" ∈ wsX1_init := by decide +kernel
  have hl21 : Cond.fieldLink RX1 21 "Scriptorium$Chronicle" "answers" "[I" ∈ wsX1_init := by decide +kernel
  refine lv_aload_n hx hb dX1_init_0 rfl (lv_at hl 0 rfl) ?_
  refine W.objInit hx hb hown (hts (.methodLink RX1 3 objectInit) (by decide +kernel)) (hts (.instanceMethod objectInit) (by decide +kernel)) (hts (.code objectInit ⟨#[0xb1]⟩ 1 none) (by decide +kernel)) rfl (by rw [hml]; exact hl.1) rfl dX1_init_1 (Nat.le_of_ble_eq_true rfl) (Nat.le_of_ble_eq_true rfl) ?_
  refine W.eq (g2 := F0 m 4 ls []) rfl ?_
  refine lv_aload_n hx hb dX1_init_4 rfl (lv_at hl 0 rfl) ?_
  refine lv_bipush (v := 16) hx hb dX1_init_5 (by decide) ?_
  refine q_newI (N' := 16) F (by decide +kernel) hK hw hA (by decide) rfl (by decide) (Nat.le_of_ble_eq_true rfl) (Nat.le_of_ble_eq_true rfl) dX1_init_7 (fun q_7 h_7 H f_a1 fr_7 nq_7 hw => ?_)
  have n_q_a1 := nq_7 _ _ f_q
  have f_q := fr_7.none f_q
  have f_q_0 := f_q
  refine q_putF (fs' := [_, _, _, _, _, _]) (ci := 1) (C := RX1) (T := TX1) (N := 6) (ty0 := tyX1) (ty := .array .int) 0 F rfl hi1 tyX1_ok nmX1 hl9 (by decide) rfl hnm rfl (by decide +kernel) rfl rfl (Nat.le_of_ble_eq_true rfl) hK hw f_q rfl dX1_init_9 (fun h_9 H locs f_q fr_9 hw => ?_)
  have f_a1 := fr_9.one f_a1 n_q_a1.symm
  refine lv_aload_n hx hb dX1_init_12 rfl (lv_at hl 0 rfl) ?_
  refine lv_bipush (v := 16) hx hb dX1_init_13 (by decide) ?_
  refine q_newI (N' := 16) F (by decide +kernel) hK hw hA (by decide) rfl (by decide) (Nat.le_of_ble_eq_true rfl) (Nat.le_of_ble_eq_true rfl) dX1_init_15 (fun q_15 h_15 H f_a2 fr_15 nq_15 hw => ?_)
  have n_q_a2 := nq_15 _ _ f_q
  have n_a1_a2 := nq_15 _ _ f_a1
  have f_q := fr_15.none f_q
  have f_a1 := fr_15.none f_a1
  have f_q_0 := f_q
  refine q_putF (fs' := [_, _, _, _, _, _]) (ci := 1) (C := RX1) (T := TX1) (N := 6) (ty0 := tyX1) (ty := .array .int) 1 F rfl hi1 tyX1_ok nmX1 hl15 (by decide) rfl hnm rfl (by decide +kernel) rfl rfl (Nat.le_of_ble_eq_true rfl) hK hw f_q rfl dX1_init_17 (fun h_17 H locs f_q fr_17 hw => ?_)
  have f_a1 := fr_17.one f_a1 n_q_a1.symm
  have f_a2 := fr_17.one f_a2 n_q_a2.symm
  refine lv_aload_n hx hb dX1_init_20 rfl (lv_at hl 0 rfl) ?_
  refine lv_bipush (v := 16) hx hb dX1_init_21 (by decide) ?_
  refine q_newI (N' := 16) F (by decide +kernel) hK hw hA (by decide) rfl (by decide) (Nat.le_of_ble_eq_true rfl) (Nat.le_of_ble_eq_true rfl) dX1_init_23 (fun q_23 h_23 H f_a3 fr_23 nq_23 hw => ?_)
  have n_q_a3 := nq_23 _ _ f_q
  have n_a1_a3 := nq_23 _ _ f_a1
  have n_a2_a3 := nq_23 _ _ f_a2
  have f_q := fr_23.none f_q
  have f_a1 := fr_23.none f_a1
  have f_a2 := fr_23.none f_a2
  have f_q_0 := f_q
  refine q_putF (fs' := [_, _, _, _, _, _]) (ci := 1) (C := RX1) (T := TX1) (N := 6) (ty0 := tyX1) (ty := .array .int) 2 F rfl hi1 tyX1_ok nmX1 hl18 (by decide) rfl hnm rfl (by decide +kernel) rfl rfl (Nat.le_of_ble_eq_true rfl) hK hw f_q rfl dX1_init_25 (fun h_25 H locs f_q fr_25 hw => ?_)
  have f_a1 := fr_25.one f_a1 n_q_a1.symm
  have f_a2 := fr_25.one f_a2 n_q_a2.symm
  have f_a3 := fr_25.one f_a3 n_q_a3.symm
  refine lv_aload_n hx hb dX1_init_28 rfl (lv_at hl 0 rfl) ?_
  refine lv_bipush (v := 16) hx hb dX1_init_29 (by decide) ?_
  refine q_newI (N' := 16) F (by decide +kernel) hK hw hA (by decide) rfl (by decide) (Nat.le_of_ble_eq_true rfl) (Nat.le_of_ble_eq_true rfl) dX1_init_31 (fun q_31 h_31 H f_a4 fr_31 nq_31 hw => ?_)
  have n_q_a4 := nq_31 _ _ f_q
  have n_a1_a4 := nq_31 _ _ f_a1
  have n_a2_a4 := nq_31 _ _ f_a2
  have n_a3_a4 := nq_31 _ _ f_a3
  have f_q := fr_31.none f_q
  have f_a1 := fr_31.none f_a1
  have f_a2 := fr_31.none f_a2
  have f_a3 := fr_31.none f_a3
  have f_q_0 := f_q
  refine q_putF (fs' := [_, _, _, _, _, _]) (ci := 1) (C := RX1) (T := TX1) (N := 6) (ty0 := tyX1) (ty := .array .int) 3 F rfl hi1 tyX1_ok nmX1 hl21 (by decide) rfl hnm rfl (by decide +kernel) rfl rfl (Nat.le_of_ble_eq_true rfl) hK hw f_q rfl dX1_init_33 (fun h_33 H locs f_q fr_33 hw => ?_)
  have f_a1 := fr_33.one f_a1 n_q_a1.symm
  have f_a2 := fr_33.one f_a2 n_q_a2.symm
  have f_a3 := fr_33.one f_a3 n_q_a3.symm
  have f_a4 := fr_33.one f_a4 n_q_a4.symm
  have key : ∀ a e, pAt h a e → a ≠ q_7 ∧ a ≠ q_15 ∧ a ≠ q_23 ∧ a ≠ q_31 := fun a e z => by
    by_cases w : a = q
    · exact ⟨w ▸ n_q_a1, w ▸ n_q_a2, w ▸ n_q_a3, w ▸ n_q_a4⟩
    · have z1 := fr_9.one (fr_7.none z) w
      have z2 := fr_17.one (fr_15.none z1) w
      have z3 := fr_25.one (fr_23.none z2) w
      exact ⟨nq_7 _ _ z, nq_15 _ _ z1, nq_23 _ _ z2, nq_31 _ _ z3⟩
  refine ct_vret hx hb hr hlocks hK hw dX1_init_36 (Nat.le_of_ble_eq_true rfl) (Nat.le_of_ble_eq_true rfl) ⟨fun k => if k = 0 then q_7 else if k = 1 then q_15 else if k = 2 then q_23 else q_31, f_q, fun k hk => ?_, fun i j hi hj hij => ?_, (fr_7.trans (fr_9.trans (fr_15.trans (fr_17.trans (fr_23.trans (fr_25.trans (fr_31.trans (fr_33)))))))).mono (by simp), fun a e z k hk => ?_⟩
  · rcases (show k = 0 ∨ k = 1 ∨ k = 2 ∨ k = 3 by omega) with rfl | rfl | rfl | rfl
    · exact f_a1
    · exact f_a2
    · exact f_a3
    · exact f_a4
  · rcases (show i = 0 ∨ i = 1 ∨ i = 2 ∨ i = 3 by omega) with rfl | rfl | rfl | rfl <;> rcases (show j = 0 ∨ j = 1 ∨ j = 2 ∨ j = 3 by omega) with rfl | rfl | rfl | rfl <;> first | rfl | (exfalso; simp at hij; first | exact n_a1_a2 hij | exact n_a1_a3 hij | exact n_a1_a4 hij | exact n_a2_a3 hij | exact n_a2_a4 hij | exact n_a3_a4 hij | exact n_a1_a2 hij.symm | exact n_a1_a3 hij.symm | exact n_a1_a4 hij.symm | exact n_a2_a3 hij.symm | exact n_a2_a4 hij.symm | exact n_a3_a4 hij.symm)
  · obtain ⟨k1, k2, k3, k4⟩ := key a e z
    rcases (show k = 0 ∨ k = 1 ∨ k = 2 ∨ k = 3 by omega) with rfl | rfl | rfl | rfl
    · exact k1
    · exact k2
    · exact k3
    · exact k4

set_option maxHeartbeats 4000000 in
set_option maxRecDepth 100000 in
theorem c_X4_bind (l : Launch) (G : va_G) (Y : Nat → ClassId) (h : PH) (ad dk : Nat → Nat) (BK : List Nat) (bS : Nat → Int32) (bN : Nat → Nat) (bV : Nat → Nat → Int64) (bT : Nat → Nat → Int32) (vA sA : Nat → Nat) (ink cop : Nat → Int32) (wai : Nat → Nat) (O : Nat → Nat → Ord) (nx he : Nat) (C : Nat → Nat → Int32) (tl : Nat → Int32) (p0 p1 p2 : Int32) (hC : CRep Y h ad (dk, (BK, bS, bN, bV, bT, vA, sA), (ink, cop, wai, O), (nx, he, C), tl)) : ctI l G Y pw yX4_bind wsX4_bind ({ frames := 2, cells := 3, slots := 83, locals := 60 }) [.ref (ad 0), .int p0, .int p1, .int p2] h (fun r h' => ((isD p0 ∧ ¬ p1 < 0 ∧ p1 ≤ 8 ∧ ¬ p2 < 0 ∧ p2 ≤ 40) ∧ r = 0 ∧ ∃ b v so, b ∉ BK ∧ CRep Y h' ad (va_up dk (cl p0) b, (b :: BK, va_up bS b p1, va_up bN b (cl p2), va_up bV b (fun _ => 0), va_up bT b (fun _ => 0), va_up vA b v, va_up sA b so), (ink, cop, wai, O), (nx, he, C), upd tl 7 (tl 7 + 1))) ∨ (¬ (isD p0 ∧ ¬ p1 < 0 ∧ p1 ≤ 8 ∧ ¬ p2 < 0 ∧ p2 ≤ 40) ∧ r = -99 ∧ h' = h)) := by
  refine ctI.of (cc := cX4_bind) (maxL := 4) (ret := (some .int)) (by decide +kernel) rfl (Nat.le_of_ble_eq_true rfl) ?_
  intro A p e s m below meth c ls hB
  obtain ⟨F, hr, hlocks, hnm, hK, hA, hw, hl⟩ := hB
  obtain ⟨hx, hb, hml, hown, hts⟩ := id F
  have hl : lv_has ls 4 [(0, .ref (ad 0)), (1, .int p0), (2, .int p1), (3, .int p2)] := hl
  have hi0 : ∀ w ∈ wsX00, w ∈ wsX4_bind := by decide +kernel
  have hi4 : ∀ w ∈ wsX40, w ∈ wsX4_bind := by decide +kernel
  have hl39 : Cond.fieldLink RX4 39 "Scriptorium" "tallies" "[I" ∈ wsX4_bind := by decide +kernel
  obtain ⟨f_x, ⟨fd, f_d, hfd⟩, hbk, hnn, ⟨⟨fS, f_ss, hfS⟩, hsc⟩, ⟨f_h, hch, hnx, hhe⟩, f_t⟩ := id hC
  have f_x : pAt h (ad 0) (oX (ad 1) (ad 2) (ad 3) (ad 4) (ad 5) (ad 6)) := f_x
  have f_t : pAt h (ad 6) (aI Y 8 tl) := f_t
  refine lv_iload_n hx hb dX4_bind_0 rfl (lv_at hl 1 rfl) ?_
  refine (c_X4_isDesk l G Y pw _ _).callS F (va_cwS 1 hts gX4_bind_X4_isDesk rfl rfl rfl (by decide +kernel) ⟨Nat.le_of_ble_eq_true rfl, Nat.le_of_ble_eq_true rfl⟩) hK hw hA rfl rfl hl.1 (Nat.le_of_ble_eq_true rfl) dX4_bind_1 ⟨Nat.le_of_ble_eq_true rfl, Nat.le_of_ble_eq_true rfl⟩ (fun r_1 h_1 H locs hp_1 hw => ?_)
  obtain ⟨eh_1, hp_1⟩ := hp_1
  rw [eh_1] at hw
  rcases hp_1 with ⟨hq_1, rfl⟩ | ⟨hq_1, rfl⟩
  · skip
    refine lv_if_eq (tgt := 17) hx hb dX4_bind_4 (by decide) (fun c_4 => ?_) (fun c_4 => ?_)
    · exact absurd c_4 (by decide)
    · skip
      refine lv_iload_n hx hb dX4_bind_7 rfl (lv_at hl 2 rfl) ?_
      refine lv_if_lt (tgt := 17) hx hb dX4_bind_8 (by decide) (fun c_8 => ?_) (fun c_8 => ?_)
      · skip
        refine lv_bipush (v := -99) hx hb dX4_bind_17 (by decide) ?_
        exact ct_iret hx hb hr (vp_nar_int _) hlocks hK hw dX4_bind_19 (Nat.le_of_ble_eq_true rfl) (Nat.le_of_ble_eq_true rfl) (Or.inr ⟨fun q => q.2.1 c_8, rfl, rfl⟩)
      · skip
        refine lv_iload_n hx hb dX4_bind_11 rfl (lv_at hl 2 rfl) ?_
        refine lv_bipush (v := 8) hx hb dX4_bind_12 (by decide) ?_
        refine lv_icmp_le (tgt := 20) hx hb dX4_bind_14 (by decide) (fun c_14 => ?_) (fun c_14 => ?_)
        · skip
          refine lv_iload_n hx hb dX4_bind_20 rfl (lv_at hl 3 rfl) ?_
          refine lv_if_lt (tgt := 30) hx hb dX4_bind_21 (by decide) (fun c_21 => ?_) (fun c_21 => ?_)
          · skip
            refine lv_bipush (v := -99) hx hb dX4_bind_30 (by decide) ?_
            exact ct_iret hx hb hr (vp_nar_int _) hlocks hK hw dX4_bind_32 (Nat.le_of_ble_eq_true rfl) (Nat.le_of_ble_eq_true rfl) (Or.inr ⟨fun q => q.2.2.2.1 c_21, rfl, rfl⟩)
          · skip
            refine lv_iload_n hx hb dX4_bind_24 rfl (lv_at hl 3 rfl) ?_
            refine lv_bipush (v := 40) hx hb dX4_bind_25 (by decide) ?_
            refine lv_icmp_le (tgt := 33) hx hb dX4_bind_27 (by decide) (fun c_27 => ?_) (fun c_27 => ?_)
            · skip
              refine lv_aload_n hx hb dX4_bind_33 rfl (lv_at hl 0 rfl) ?_
              refine p_get (ci := 4) (C := RX4) (T := TX4) (N := 6) 5 F rfl hi4 hl39 (by decide) hK hw f_x rfl dX4_bind_34 ?_
              refine lv_bipush (v := 7) hx hb dX4_bind_37 (by decide) ?_
              refine lv_dup2_11 hx hb dX4_bind_39 rfl rfl ?_
              refine p_ildI F hK hw f_t (vp_in_nI (n := 7) (by decide) (by decide)) dX4_bind_40 ?_
              refine lv_iconst (v := 1) hx hb dX4_bind_41 (by decide) ?_
              refine lv_iadd hx hb dX4_bind_42 ?_
              have f_t_0 := f_t
              refine q_stI F hK hw f_t (vp_in_nI (n := 7) (by decide) (by decide)) dX4_bind_43 (fun h_43 H locs f_t fr_43 hw => ?_)
              have f_x := fr_43.one f_x (f_x.kinds f_t_0 (by simp))
              refine lv_aload_n hx hb dX4_bind_44 rfl (lv_at hl 0 rfl) ?_
              refine lv_iload_n hx hb dX4_bind_45 rfl (lv_at hl 1 rfl) ?_
              have hC1 := hC.tal fr_43 f_t
              obtain ⟨n9, hn9, rfl⟩ := vp_in_of (in_le (n := 41) (M := 40) rfl c_21 c_27) (by decide)
              have hn40 : n9 ≤ 40 := by omega
              refine q_new (fs := [.int 0, .null, .null]) (ci := 0) (C := RX0) (T := TX0) (N := 3) (ty0 := tyX0) F rfl hi0 tyX0_ok (by decide +kernel) (by decide +kernel) (by decide +kernel) hK hw hA (fun j hj => by rcases (show j = 0 ∨ j = 1 ∨ j = 2 by omega) with rfl | rfl | rfl <;> rfl) (Nat.le_of_ble_eq_true rfl) (Nat.le_of_ble_eq_true rfl) dX4_bind_46 (fun q_46 h_46 H f_nb fr_46 nq_46 hw => ?_)
              have n_x_nb := nq_46 _ _ f_x
              have f_x := fr_46.none f_x
              refine lv_dup hx hb dX4_bind_49 rfl ?_
              refine lv_iload_n hx hb dX4_bind_50 rfl (lv_at hl 2 rfl) ?_
              refine lv_iload_n hx hb dX4_bind_51 rfl (lv_at hl 3 rfl) ?_
              refine (c_X0_init l G Y _ _ _ n9 f_nb hn40).callI F (cwI 2 hts gX4_bind_X0_init rfl rfl rfl (hts (.initialized RX0) (by decide +kernel)) (hts (.methodLink RX4 11 yX0_init) (by decide +kernel)) (hts (.instanceMethod yX0_init) (by decide +kernel)) rfl (by decide +kernel) ⟨Nat.le_of_ble_eq_true rfl, Nat.le_of_ble_eq_true rfl⟩) hK hw hA rfl rfl hl.1 (Nat.le_of_ble_eq_true rfl) dX4_bind_52 ⟨Nat.le_of_ble_eq_true rfl, Nat.le_of_ble_eq_true rfl⟩ (fun h_52 H locs hp_52 hw => ?_)
              obtain ⟨v, so, g1, g2, g3, frI, hfr⟩ := hp_52
              have frN : pFr h_43 h_52 [] := fun a e _ q => frI.one (fr_46.none q) (nq_46 a e q)
              have hC2 := hC1.grow frN
              obtain ⟨-, -, hbk1, -, -, hh1, ht1⟩ := id hC1
              have hC3 := hC2.more g1 g2 g3 hn40 (fun q => nq_46 _ _ (hbk1 _ q).1 rfl) (fun c hc => (hfr _ _ (fr_46.none (hbk1 c hc).2.1)).1) (fun c hc => (hfr _ _ (fr_46.none (hbk1 c hc).2.2.1)).2) (fun q => (hfr _ _ (fr_46.none ht1)).2 q.symm) (fun k hk q => (hfr _ _ (fr_46.none (hh1.2.1 k hk))).2 q.symm)
              obtain ⟨f_x, ⟨fd, f_d, hfd⟩, hbk, hnn, ⟨⟨fS, f_ss, hfS⟩, hsc⟩, ⟨f_h, hch, hnx, hhe⟩, f_t⟩ := id hC3
              have f_x : pAt h_52 (ad 0) (oX (ad 1) (ad 2) (ad 3) (ad 4) (ad 5) (ad 6)) := f_x
              refine (c_X4_lay l G Y _ _ _ _ _ _ _ _ _ _ _ _ _ _ _ _ _ _ _ _ hC3 List.mem_cons_self).callV F (cwV 2 hts gX4_bind_X4_lay rfl rfl rfl (by decide +kernel) ⟨Nat.le_of_ble_eq_true rfl, Nat.le_of_ble_eq_true rfl⟩) hK hw hA (p_recv hK hw f_x rfl) rfl rfl hl.1 (Nat.le_of_ble_eq_true rfl) dX4_bind_55 ⟨Nat.le_of_ble_eq_true rfl, Nat.le_of_ble_eq_true rfl⟩ (fun r_55 h_55 H locs hp_55 hw => ?_)
              rcases hp_55 with ⟨-, rfl, hC4⟩ | ⟨q, -⟩
              · exact ct_iret hx hb hr (vp_nar_int _) hlocks hK hw dX4_bind_58 (Nat.le_of_ble_eq_true rfl) (Nat.le_of_ble_eq_true rfl) (Or.inl ⟨⟨hq_1, c_8, c_14, c_21, c_27⟩, rfl, q_46, v, so, fun q => nq_46 _ _ (hbk1 _ q).1 rfl, by rw [cl_nI (by omega)]; exact hC4⟩)
              · exact absurd hq_1 q
            · skip
              refine lv_bipush (v := -99) hx hb dX4_bind_30 (by decide) ?_
              exact ct_iret hx hb hr (vp_nar_int _) hlocks hK hw dX4_bind_32 (Nat.le_of_ble_eq_true rfl) (Nat.le_of_ble_eq_true rfl) (Or.inr ⟨fun q => c_27 q.2.2.2.2, rfl, rfl⟩)
        · skip
          refine lv_bipush (v := -99) hx hb dX4_bind_17 (by decide) ?_
          exact ct_iret hx hb hr (vp_nar_int _) hlocks hK hw dX4_bind_19 (Nat.le_of_ble_eq_true rfl) (Nat.le_of_ble_eq_true rfl) (Or.inr ⟨fun q => c_14 q.2.2.1, rfl, rfl⟩)
  · skip
    refine lv_if_eq (tgt := 17) hx hb dX4_bind_4 (by decide) (fun c_4 => ?_) (fun c_4 => ?_)
    · skip
      refine lv_bipush (v := -99) hx hb dX4_bind_17 (by decide) ?_
      exact ct_iret hx hb hr (vp_nar_int _) hlocks hK hw dX4_bind_19 (Nat.le_of_ble_eq_true rfl) (Nat.le_of_ble_eq_true rfl) (Or.inr ⟨fun q => hq_1 q.1, rfl, rfl⟩)
    · exact absurd rfl c_4

set_option maxHeartbeats 4000000 in
set_option maxRecDepth 100000 in
theorem c_X4_write (l : Launch) (G : va_G) (Y : Nat → ClassId) (h : PH) (ad dk : Nat → Nat) (BK : List Nat) (bS : Nat → Int32) (bN : Nat → Nat) (bV : Nat → Nat → Int64) (bT : Nat → Nat → Int32) (vA sA : Nat → Nat) (ink cop : Nat → Int32) (wai : Nat → Nat) (O : Nat → Nat → Ord) (nx he : Nat) (C : Nat → Nat → Int32) (tl : Nat → Int32) (p0 p1 p2 : Int32) (v0 : Int64) (hC : CRep Y h ad (dk, (BK, bS, bN, bV, bT, vA, sA), (ink, cop, wai, O), (nx, he, C), tl)) : ctI l G Y pw yX4_write wsX4_write ({ frames := 2, cells := 0, slots := 0, locals := 60 }) [.ref (ad 0), .int p0, .int p1, .int p2, .long v0] h (fun r h' => cWriteP Y h h' ad (dk, (BK, bS, bN, bV, bT, vA, sA), (ink, cop, wai, O), (nx, he, C), tl) p0 p1 p2 v0 r) := by
  refine ctI.of (cc := cX4_write) (maxL := 7) (ret := (some .int)) (by decide +kernel) rfl (Nat.le_of_ble_eq_true rfl) ?_
  intro A p e s m below meth c ls hB
  obtain ⟨F, hr, hlocks, hnm, hK, hA, hw, hl⟩ := hB
  obtain ⟨hx, hb, hml, hown, hts⟩ := id F
  have hl : lv_has ls 7 [(0, .ref (ad 0)), (1, .int p0), (2, .int p1), (3, .int p2), (4, .long v0)] := hl
  have hi0 : ∀ w ∈ wsX00, w ∈ wsX4_write := by decide +kernel
  have hi4 : ∀ w ∈ wsX40, w ∈ wsX4_write := by decide +kernel
  have hl21 : Cond.fieldLink RX4 21 "Scriptorium" "desks" "[LScriptorium$Book;" ∈ wsX4_write := by decide +kernel
  have hl58 : Cond.fieldLink RX4 58 "Scriptorium$Book" "script" "I" ∈ wsX4_write := by decide +kernel
  have hl69 : Cond.fieldLink RX4 69 "Scriptorium$Book" "values" "[J" ∈ wsX4_write := by decide +kernel
  obtain ⟨f_x, ⟨fd, f_d, hfd⟩, hbk, hnn, ⟨⟨fS, f_ss, hfS⟩, hsc⟩, ⟨f_h, hch, hnx, hhe⟩, f_t⟩ := id hC
  have f_x : pAt h (ad 0) (oX (ad 1) (ad 2) (ad 3) (ad 4) (ad 5) (ad 6)) := f_x
  have f_t : pAt h (ad 6) (aI Y 8 tl) := f_t
  refine lv_iload_n hx hb dX4_write_0 rfl (lv_at hl 1 rfl) ?_
  refine (c_X4_isDesk l G Y pw _ _).callS F (va_cwS 1 hts gX4_write_X4_isDesk rfl rfl rfl (by decide +kernel) ⟨Nat.le_of_ble_eq_true rfl, Nat.le_of_ble_eq_true rfl⟩) hK hw hA rfl rfl hl.1 (Nat.le_of_ble_eq_true rfl) dX4_write_1 ⟨Nat.le_of_ble_eq_true rfl, Nat.le_of_ble_eq_true rfl⟩ (fun r_1 h_1 H locs hp_1 hw => ?_)
  obtain ⟨eh_1, hp_1⟩ := hp_1
  rw [eh_1] at hw
  rcases hp_1 with ⟨hq_1, rfl⟩ | ⟨hq_1, rfl⟩
  · skip
    refine lv_if_ne (tgt := 10) hx hb dX4_write_4 (by decide) (fun c_4 => ?_) (fun c_4 => ?_)
    · skip
      refine lv_aload_n hx hb dX4_write_10 rfl (lv_at hl 0 rfl) ?_
      refine p_get (ci := 4) (C := RX4) (T := TX4) (N := 6) 2 F rfl hi4 hl21 (by decide) hK hw f_x rfl dX4_write_11 ?_
      refine lv_iload_n hx hb dX4_write_14 rfl (lv_at hl 1 rfl) ?_
      refine p_ldB F hK hw f_d hq_1.in (hfd _ hq_1.lt).1 dX4_write_15 ?_
      obtain ⟨f_b, f_bv, f_bs, hn_b⟩ := hbk _ (hfd _ hq_1.lt).2
      refine lv_astore (lv' := [(6, .ref _), (0, .ref _), (1, .int _), (2, .int _), (3, .int _), (4, .long _)]) hx hb dX4_write_16 hl (by decide) rfl (fun ls hl => ?_)
      refine lv_aload hx hb dX4_write_18 (lv_at hl 0 rfl) ?_
      refine (c_X0_hasPictures l G Y _ _ _ _ _ f_b).callV F (cwV 0 hts gX4_write_X0_hasPictures rfl rfl rfl (by decide +kernel) ⟨Nat.le_of_ble_eq_true rfl, Nat.le_of_ble_eq_true rfl⟩) hK hw hA (p_recv hK hw f_b rfl) rfl rfl hl.1 (Nat.le_of_ble_eq_true rfl) dX4_write_20 ⟨Nat.le_of_ble_eq_true rfl, Nat.le_of_ble_eq_true rfl⟩ (fun r_20 h_20 H locs hp_20 hw => ?_)
      obtain ⟨eh_20, hp_20⟩ := hp_20
      rw [eh_20] at hw
      rcases hp_20 with ⟨hq_20, rfl⟩ | ⟨hq_20, rfl⟩
      · skip
        refine lv_if_eq (tgt := 38) hx hb dX4_write_23 (by decide) (fun c_23 => ?_) (fun c_23 => ?_)
        · exact absurd c_23 (by decide)
        · skip
          refine lv_iload_n hx hb dX4_write_26 rfl (lv_at hl 4 rfl) ?_
          refine lv_if_lt (tgt := 35) hx hb dX4_write_27 (by decide) (fun c_27 => ?_) (fun c_27 => ?_)
          · skip
            refine lv_bipush (v := -99) hx hb dX4_write_35 (by decide) ?_
            exact ct_iret hx hb hr (vp_nar_int _) hlocks hK hw dX4_write_37 (Nat.le_of_ble_eq_true rfl) (Nat.le_of_ble_eq_true rfl) (Or.inr (Or.inl ⟨hq_1, ⟨hq_20, fun q => q.1 c_27⟩, rfl, rfl⟩))
          · skip
            refine lv_iload_n hx hb dX4_write_30 rfl (lv_at hl 4 rfl) ?_
            refine lv_iconst (v := 2) hx hb dX4_write_31 (by decide) ?_
            refine lv_icmp_le (tgt := 38) hx hb dX4_write_32 (by decide) (fun c_32 => ?_) (fun c_32 => ?_)
            · skip
              refine lv_aload hx hb dX4_write_38 (lv_at hl 0 rfl) ?_
              refine (c_X0_isNoBook l G Y _ _ _ _ _ f_b).callV F (cwV 0 hts gX4_write_X0_isNoBook rfl rfl rfl (by decide +kernel) ⟨Nat.le_of_ble_eq_true rfl, Nat.le_of_ble_eq_true rfl⟩) hK hw hA (p_recv hK hw f_b rfl) rfl rfl hl.1 (Nat.le_of_ble_eq_true rfl) dX4_write_40 ⟨Nat.le_of_ble_eq_true rfl, Nat.le_of_ble_eq_true rfl⟩ (fun r_40 h_40 H locs hp_40 hw => ?_)
              obtain ⟨eh_40, hp_40⟩ := hp_40
              rw [eh_40] at hw
              rcases hp_40 with ⟨hq_40, rfl⟩ | ⟨hq_40, rfl⟩
              · skip
                refine lv_if_eq (tgt := 52) hx hb dX4_write_43 (by decide) (fun c_43 => ?_) (fun c_43 => ?_)
                · exact absurd c_43 (by decide)
                · skip
                  refine lv_aload hx hb dX4_write_46 (lv_at hl 0 rfl) ?_
                  refine p_get (ci := 0) (C := RX0) (T := TX0) (N := 3) 0 F rfl hi0 hl58 (by decide) hK hw f_b rfl dX4_write_48 ?_
                  exact ct_iret hx hb hr (vp_nar_int _) hlocks hK hw dX4_write_51 (Nat.le_of_ble_eq_true rfl) (Nat.le_of_ble_eq_true rfl) (Or.inr (Or.inr (Or.inl ⟨hq_1, hq_40, rfl, rfl⟩)))
              · skip
                refine lv_if_eq (tgt := 52) hx hb dX4_write_43 (by decide) (fun c_43 => ?_) (fun c_43 => ?_)
                · skip
                  refine lv_aload hx hb dX4_write_52 (lv_at hl 0 rfl) ?_
                  refine lv_iload_n hx hb dX4_write_54 rfl (lv_at hl 3 rfl) ?_
                  refine (c_X0_hasPlace l G Y _ _ _ _ _ _ _ (fun _ => 0) _ f_b f_bv).callV F (cwV 1 hts gX4_write_X0_hasPlace rfl rfl rfl (by decide +kernel) ⟨Nat.le_of_ble_eq_true rfl, Nat.le_of_ble_eq_true rfl⟩) hK hw hA (p_recv hK hw f_b rfl) rfl rfl hl.1 (Nat.le_of_ble_eq_true rfl) dX4_write_55 ⟨Nat.le_of_ble_eq_true rfl, Nat.le_of_ble_eq_true rfl⟩ (fun r_55 h_55 H locs hp_55 hw => ?_)
                  obtain ⟨eh_55, hp_55⟩ := hp_55
                  rw [eh_55] at hw
                  rcases hp_55 with ⟨hq_55, rfl⟩ | ⟨hq_55, rfl⟩
                  · skip
                    refine lv_if_ne (tgt := 64) hx hb dX4_write_58 (by decide) (fun c_58 => ?_) (fun c_58 => ?_)
                    · skip
                      refine lv_aload hx hb dX4_write_64 (lv_at hl 0 rfl) ?_
                      refine (c_X0_hasPictures l G Y _ _ _ _ _ f_b).callV F (cwV 0 hts gX4_write_X0_hasPictures rfl rfl rfl (by decide +kernel) ⟨Nat.le_of_ble_eq_true rfl, Nat.le_of_ble_eq_true rfl⟩) hK hw hA (p_recv hK hw f_b rfl) rfl rfl hl.1 (Nat.le_of_ble_eq_true rfl) dX4_write_66 ⟨Nat.le_of_ble_eq_true rfl, Nat.le_of_ble_eq_true rfl⟩ (fun r_66 h_66 H locs hp_66 hw => ?_)
                      obtain ⟨eh_66, hp_66⟩ := hp_66
                      rw [eh_66] at hw
                      rcases hp_66 with ⟨hq_66, rfl⟩ | ⟨hq_66, rfl⟩
                      · skip
                        refine lv_if_eq (tgt := 91) hx hb dX4_write_69 (by decide) (fun c_69 => ?_) (fun c_69 => ?_)
                        · exact absurd c_69 (by decide)
                        · skip
                          refine lv_aload hx hb dX4_write_72 (lv_at hl 0 rfl) ?_
                          refine lv_iload_n hx hb dX4_write_74 rfl (lv_at hl 3 rfl) ?_
                          refine lv_iload_n hx hb dX4_write_75 rfl (lv_at hl 4 rfl) ?_
                          refine lv_lload hx hb dX4_write_76 (lv_at hl 5 rfl) ?_
                          refine (c_X0_paint l G Y _ _ _ _ _ _ _ _ _ _ _ f_b f_bv f_bs (inPl hn_b hq_55.1 hq_55.2)).callV F (cwV 3 hts gX4_write_X0_paint rfl rfl rfl (by decide +kernel) ⟨Nat.le_of_ble_eq_true rfl, Nat.le_of_ble_eq_true rfl⟩) hK hw hA (p_recv hK hw f_b rfl) rfl rfl hl.1 (Nat.le_of_ble_eq_true rfl) dX4_write_78 ⟨Nat.le_of_ble_eq_true rfl, Nat.le_of_ble_eq_true rfl⟩ (fun r_78 h_78 H locs hp_78 hw => ?_)
                          rcases hp_78 with hpa | hpa
                          
                          · skip
                            rw [hpa.2.1]
                            refine lv_if_eq (tgt := 88) hx hb dX4_write_81 (by decide) (fun c_81 => ?_) (fun c_81 => ?_)
                            · skip
                              refine lv_bipush (v := -10) hx hb dX4_write_88 (by decide) ?_
                              exact ct_iret hx hb hr (vp_nar_int _) hlocks hK hw dX4_write_90 (Nat.le_of_ble_eq_true rfl) (Nat.le_of_ble_eq_true rfl) (Or.inr (Or.inr (Or.inr (Or.inr (Or.inl ⟨hq_1, hq_40, ⟨c_27, c_32⟩, hq_55, hq_66, hpa.1, rfl, hpa.2.2⟩)))))
                            · exact absurd rfl c_81
                          · skip
                            rw [hpa.2.1]
                            refine lv_if_eq (tgt := 88) hx hb dX4_write_81 (by decide) (fun c_81 => ?_) (fun c_81 => ?_)
                            · exact absurd c_81 (by decide)
                            · skip
                              refine lv_iconst (v := 0) hx hb dX4_write_84 (by decide) ?_
                              refine lv_goto (tgt := 90) hx hb dX4_write_85 (by decide) ?_
                              exact ct_iret hx hb hr (vp_nar_int _) hlocks hK hw dX4_write_90 (Nat.le_of_ble_eq_true rfl) (Nat.le_of_ble_eq_true rfl) (Or.inr (Or.inr (Or.inr (Or.inr (Or.inr (Or.inl ⟨hq_1, hq_40, ⟨c_27, c_32⟩, hq_55, hq_66, hpa.1, rfl, hC.book (hfd _ hq_1.lt).2 (hpa.2.2.1.mono (by simp)) hpa.2.2.2.1 hpa.2.2.2.2⟩))))))
                      · skip
                        refine lv_if_eq (tgt := 91) hx hb dX4_write_69 (by decide) (fun c_69 => ?_) (fun c_69 => ?_)
                        · skip
                          refine lv_aload hx hb dX4_write_91 (lv_at hl 0 rfl) ?_
                          refine p_get (ci := 0) (C := RX0) (T := TX0) (N := 3) 1 F rfl hi0 hl69 (by decide) hK hw f_b rfl dX4_write_93 ?_
                          refine lv_iload_n hx hb dX4_write_96 rfl (lv_at hl 3 rfl) ?_
                          refine lv_aload hx hb dX4_write_97 (lv_at hl 0 rfl) ?_
                          refine lv_lload hx hb dX4_write_99 (lv_at hl 5 rfl) ?_
                          refine (c_X0_cut l G Y _ _ _ _ _ _ f_b (six hq_40 hq_66)).callV F (cwV 1 hts gX4_write_X0_cut rfl rfl rfl (by decide +kernel) ⟨Nat.le_of_ble_eq_true rfl, Nat.le_of_ble_eq_true rfl⟩) hK hw hA (p_recv hK hw f_b rfl) rfl rfl hl.1 (Nat.le_of_ble_eq_true rfl) dX4_write_101 ⟨Nat.le_of_ble_eq_true rfl, Nat.le_of_ble_eq_true rfl⟩ (fun r_101 h_101 H locs hp_101 hw => ?_)
                          obtain ⟨eh_101, rfl⟩ := hp_101
                          rw [eh_101] at hw
                          have f_bv_0 := f_bv
                          refine q_stJ F hK hw f_bv (inPl hn_b hq_55.1 hq_55.2) dX4_write_104 (fun h_104 H locs f_bv fr_104 hw => ?_)
                          have f_b := fr_104.one f_b (f_b.kinds f_bv_0 (by simp))
                          have f_bs := fr_104.one f_bs (f_bs.kinds f_bv_0 (by simp))
                          refine lv_iconst (v := 0) hx hb dX4_write_105 (by decide) ?_
                          exact ct_iret hx hb hr (vp_nar_int _) hlocks hK hw dX4_write_106 (Nat.le_of_ble_eq_true rfl) (Nat.le_of_ble_eq_true rfl) (Or.inr (Or.inr (Or.inr (Or.inr (Or.inr (Or.inr ⟨hq_1, hq_40, hq_55, hq_66, rfl, hC.book (hfd _ hq_1.lt).2 (fr_104.mono (by simp)) f_bv f_bs⟩))))))
                        · exact absurd rfl c_69
                    · exact absurd c_58 (by decide)
                  · skip
                    refine lv_if_ne (tgt := 64) hx hb dX4_write_58 (by decide) (fun c_58 => ?_) (fun c_58 => ?_)
                    · exact absurd rfl c_58
                    · skip
                      refine lv_bipush (v := -3) hx hb dX4_write_61 (by decide) ?_
                      exact ct_iret hx hb hr (vp_nar_int _) hlocks hK hw dX4_write_63 (Nat.le_of_ble_eq_true rfl) (Nat.le_of_ble_eq_true rfl) (Or.inr (Or.inr (Or.inr (Or.inl ⟨hq_1, hq_40, (fun _ => ⟨c_27, c_32⟩), hq_55, rfl, rfl⟩))))
                · exact absurd rfl c_43
            · skip
              refine lv_bipush (v := -99) hx hb dX4_write_35 (by decide) ?_
              exact ct_iret hx hb hr (vp_nar_int _) hlocks hK hw dX4_write_37 (Nat.le_of_ble_eq_true rfl) (Nat.le_of_ble_eq_true rfl) (Or.inr (Or.inl ⟨hq_1, ⟨hq_20, fun q => c_32 q.2⟩, rfl, rfl⟩))
      · skip
        refine lv_if_eq (tgt := 38) hx hb dX4_write_23 (by decide) (fun c_23 => ?_) (fun c_23 => ?_)
        · skip
          refine lv_aload hx hb dX4_write_38 (lv_at hl 0 rfl) ?_
          refine (c_X0_isNoBook l G Y _ _ _ _ _ f_b).callV F (cwV 0 hts gX4_write_X0_isNoBook rfl rfl rfl (by decide +kernel) ⟨Nat.le_of_ble_eq_true rfl, Nat.le_of_ble_eq_true rfl⟩) hK hw hA (p_recv hK hw f_b rfl) rfl rfl hl.1 (Nat.le_of_ble_eq_true rfl) dX4_write_40 ⟨Nat.le_of_ble_eq_true rfl, Nat.le_of_ble_eq_true rfl⟩ (fun r_40 h_40 H locs hp_40 hw => ?_)
          obtain ⟨eh_40, hp_40⟩ := hp_40
          rw [eh_40] at hw
          rcases hp_40 with ⟨hq_40, rfl⟩ | ⟨hq_40, rfl⟩
          · skip
            refine lv_if_eq (tgt := 52) hx hb dX4_write_43 (by decide) (fun c_43 => ?_) (fun c_43 => ?_)
            · exact absurd c_43 (by decide)
            · skip
              refine lv_aload hx hb dX4_write_46 (lv_at hl 0 rfl) ?_
              refine p_get (ci := 0) (C := RX0) (T := TX0) (N := 3) 0 F rfl hi0 hl58 (by decide) hK hw f_b rfl dX4_write_48 ?_
              exact ct_iret hx hb hr (vp_nar_int _) hlocks hK hw dX4_write_51 (Nat.le_of_ble_eq_true rfl) (Nat.le_of_ble_eq_true rfl) (Or.inr (Or.inr (Or.inl ⟨hq_1, hq_40, rfl, rfl⟩)))
          · skip
            refine lv_if_eq (tgt := 52) hx hb dX4_write_43 (by decide) (fun c_43 => ?_) (fun c_43 => ?_)
            · skip
              refine lv_aload hx hb dX4_write_52 (lv_at hl 0 rfl) ?_
              refine lv_iload_n hx hb dX4_write_54 rfl (lv_at hl 3 rfl) ?_
              refine (c_X0_hasPlace l G Y _ _ _ _ _ _ _ (fun _ => 0) _ f_b f_bv).callV F (cwV 1 hts gX4_write_X0_hasPlace rfl rfl rfl (by decide +kernel) ⟨Nat.le_of_ble_eq_true rfl, Nat.le_of_ble_eq_true rfl⟩) hK hw hA (p_recv hK hw f_b rfl) rfl rfl hl.1 (Nat.le_of_ble_eq_true rfl) dX4_write_55 ⟨Nat.le_of_ble_eq_true rfl, Nat.le_of_ble_eq_true rfl⟩ (fun r_55 h_55 H locs hp_55 hw => ?_)
              obtain ⟨eh_55, hp_55⟩ := hp_55
              rw [eh_55] at hw
              rcases hp_55 with ⟨hq_55, rfl⟩ | ⟨hq_55, rfl⟩
              · skip
                refine lv_if_ne (tgt := 64) hx hb dX4_write_58 (by decide) (fun c_58 => ?_) (fun c_58 => ?_)
                · skip
                  refine lv_aload hx hb dX4_write_64 (lv_at hl 0 rfl) ?_
                  refine (c_X0_hasPictures l G Y _ _ _ _ _ f_b).callV F (cwV 0 hts gX4_write_X0_hasPictures rfl rfl rfl (by decide +kernel) ⟨Nat.le_of_ble_eq_true rfl, Nat.le_of_ble_eq_true rfl⟩) hK hw hA (p_recv hK hw f_b rfl) rfl rfl hl.1 (Nat.le_of_ble_eq_true rfl) dX4_write_66 ⟨Nat.le_of_ble_eq_true rfl, Nat.le_of_ble_eq_true rfl⟩ (fun r_66 h_66 H locs hp_66 hw => ?_)
                  obtain ⟨eh_66, hp_66⟩ := hp_66
                  rw [eh_66] at hw
                  rcases hp_66 with ⟨hq_66, rfl⟩ | ⟨hq_66, rfl⟩
                  · skip
                    refine lv_if_eq (tgt := 91) hx hb dX4_write_69 (by decide) (fun c_69 => ?_) (fun c_69 => ?_)
                    · exact absurd c_69 (by decide)
                    · skip
                      refine lv_aload hx hb dX4_write_72 (lv_at hl 0 rfl) ?_
                      refine lv_iload_n hx hb dX4_write_74 rfl (lv_at hl 3 rfl) ?_
                      refine lv_iload_n hx hb dX4_write_75 rfl (lv_at hl 4 rfl) ?_
                      refine lv_lload hx hb dX4_write_76 (lv_at hl 5 rfl) ?_
                      refine (c_X0_paint l G Y _ _ _ _ _ _ _ _ _ _ _ f_b f_bv f_bs (inPl hn_b hq_55.1 hq_55.2)).callV F (cwV 3 hts gX4_write_X0_paint rfl rfl rfl (by decide +kernel) ⟨Nat.le_of_ble_eq_true rfl, Nat.le_of_ble_eq_true rfl⟩) hK hw hA (p_recv hK hw f_b rfl) rfl rfl hl.1 (Nat.le_of_ble_eq_true rfl) dX4_write_78 ⟨Nat.le_of_ble_eq_true rfl, Nat.le_of_ble_eq_true rfl⟩ (fun r_78 h_78 H locs hp_78 hw => ?_)
                      rcases hp_78 with hpa | hpa
                      
                      · skip
                        rw [hpa.2.1]
                        refine lv_if_eq (tgt := 88) hx hb dX4_write_81 (by decide) (fun c_81 => ?_) (fun c_81 => ?_)
                        · skip
                          refine lv_bipush (v := -10) hx hb dX4_write_88 (by decide) ?_
                          exact ct_iret hx hb hr (vp_nar_int _) hlocks hK hw dX4_write_90 (Nat.le_of_ble_eq_true rfl) (Nat.le_of_ble_eq_true rfl) (Or.inr (Or.inr (Or.inr (Or.inr (Or.inl ⟨hq_1, hq_40, (absurd hq_66 hq_20), hq_55, hq_66, hpa.1, rfl, hpa.2.2⟩)))))
                        · exact absurd rfl c_81
                      · skip
                        rw [hpa.2.1]
                        refine lv_if_eq (tgt := 88) hx hb dX4_write_81 (by decide) (fun c_81 => ?_) (fun c_81 => ?_)
                        · exact absurd c_81 (by decide)
                        · skip
                          refine lv_iconst (v := 0) hx hb dX4_write_84 (by decide) ?_
                          refine lv_goto (tgt := 90) hx hb dX4_write_85 (by decide) ?_
                          exact ct_iret hx hb hr (vp_nar_int _) hlocks hK hw dX4_write_90 (Nat.le_of_ble_eq_true rfl) (Nat.le_of_ble_eq_true rfl) (Or.inr (Or.inr (Or.inr (Or.inr (Or.inr (Or.inl ⟨hq_1, hq_40, (absurd hq_66 hq_20), hq_55, hq_66, hpa.1, rfl, hC.book (hfd _ hq_1.lt).2 (hpa.2.2.1.mono (by simp)) hpa.2.2.2.1 hpa.2.2.2.2⟩))))))
                  · skip
                    refine lv_if_eq (tgt := 91) hx hb dX4_write_69 (by decide) (fun c_69 => ?_) (fun c_69 => ?_)
                    · skip
                      refine lv_aload hx hb dX4_write_91 (lv_at hl 0 rfl) ?_
                      refine p_get (ci := 0) (C := RX0) (T := TX0) (N := 3) 1 F rfl hi0 hl69 (by decide) hK hw f_b rfl dX4_write_93 ?_
                      refine lv_iload_n hx hb dX4_write_96 rfl (lv_at hl 3 rfl) ?_
                      refine lv_aload hx hb dX4_write_97 (lv_at hl 0 rfl) ?_
                      refine lv_lload hx hb dX4_write_99 (lv_at hl 5 rfl) ?_
                      refine (c_X0_cut l G Y _ _ _ _ _ _ f_b (six hq_40 hq_66)).callV F (cwV 1 hts gX4_write_X0_cut rfl rfl rfl (by decide +kernel) ⟨Nat.le_of_ble_eq_true rfl, Nat.le_of_ble_eq_true rfl⟩) hK hw hA (p_recv hK hw f_b rfl) rfl rfl hl.1 (Nat.le_of_ble_eq_true rfl) dX4_write_101 ⟨Nat.le_of_ble_eq_true rfl, Nat.le_of_ble_eq_true rfl⟩ (fun r_101 h_101 H locs hp_101 hw => ?_)
                      obtain ⟨eh_101, rfl⟩ := hp_101
                      rw [eh_101] at hw
                      have f_bv_0 := f_bv
                      refine q_stJ F hK hw f_bv (inPl hn_b hq_55.1 hq_55.2) dX4_write_104 (fun h_104 H locs f_bv fr_104 hw => ?_)
                      have f_b := fr_104.one f_b (f_b.kinds f_bv_0 (by simp))
                      have f_bs := fr_104.one f_bs (f_bs.kinds f_bv_0 (by simp))
                      refine lv_iconst (v := 0) hx hb dX4_write_105 (by decide) ?_
                      exact ct_iret hx hb hr (vp_nar_int _) hlocks hK hw dX4_write_106 (Nat.le_of_ble_eq_true rfl) (Nat.le_of_ble_eq_true rfl) (Or.inr (Or.inr (Or.inr (Or.inr (Or.inr (Or.inr ⟨hq_1, hq_40, hq_55, hq_66, rfl, hC.book (hfd _ hq_1.lt).2 (fr_104.mono (by simp)) f_bv f_bs⟩))))))
                    · exact absurd rfl c_69
                · exact absurd c_58 (by decide)
              · skip
                refine lv_if_ne (tgt := 64) hx hb dX4_write_58 (by decide) (fun c_58 => ?_) (fun c_58 => ?_)
                · exact absurd rfl c_58
                · skip
                  refine lv_bipush (v := -3) hx hb dX4_write_61 (by decide) ?_
                  exact ct_iret hx hb hr (vp_nar_int _) hlocks hK hw dX4_write_63 (Nat.le_of_ble_eq_true rfl) (Nat.le_of_ble_eq_true rfl) (Or.inr (Or.inr (Or.inr (Or.inl ⟨hq_1, hq_40, (fun z => absurd z hq_20), hq_55, rfl, rfl⟩))))
            · exact absurd rfl c_43
        · exact absurd rfl c_23
    · exact absurd c_4 (by decide)
  · skip
    refine lv_if_ne (tgt := 10) hx hb dX4_write_4 (by decide) (fun c_4 => ?_) (fun c_4 => ?_)
    · exact absurd rfl c_4
    · skip
      refine lv_bipush (v := -99) hx hb dX4_write_7 (by decide) ?_
      exact ct_iret hx hb hr (vp_nar_int _) hlocks hK hw dX4_write_9 (Nat.le_of_ble_eq_true rfl) (Nat.le_of_ble_eq_true rfl) (Or.inl ⟨hq_1, rfl, rfl⟩)

set_option maxHeartbeats 4000000 in
set_option maxRecDepth 100000 in
theorem c_X4_copy (l : Launch) (G : va_G) (Y : Nat → ClassId) (h : PH) (ad dk : Nat → Nat) (BK : List Nat) (bS : Nat → Int32) (bN : Nat → Nat) (bV : Nat → Nat → Int64) (bT : Nat → Nat → Int32) (vA sA : Nat → Nat) (ink cop : Nat → Int32) (wai : Nat → Nat) (O : Nat → Nat → Ord) (nx he : Nat) (C : Nat → Nat → Int32) (tl : Nat → Int32) (p0 p1 p2 p3 p4 p5 : Int32) (hC : CRep Y h ad (dk, (BK, bS, bN, bV, bT, vA, sA), (ink, cop, wai, O), (nx, he, C), tl)) : ctI l G Y pw yX4_copy wsX4_copy ({ frames := 5, cells := 1, slots := 6, locals := 200 }) [.ref (ad 0), .int p0, .int p1, .int p2, .int p3, .int p4, .int p5] h (fun r h' => ∃ cs', CRep Y h' ad cs' ∧ cPerfP (dk, (BK, bS, bN, bV, bT, vA, sA), (ink, cop, wai, O), (nx, he, C), tl) p0 p1 p2 p3 p4 p5 r cs') := by
  refine ctI.of (cc := cX4_copy) (maxL := 7) (ret := (some .int)) (by decide +kernel) rfl (Nat.le_of_ble_eq_true rfl) ?_
  intro A p e s m below meth c ls hB
  obtain ⟨F, hr, hlocks, hnm, hK, hA, hw, hl⟩ := hB
  obtain ⟨hx, hb, hml, hown, hts⟩ := id F
  have hl : lv_has ls 7 [(0, .ref (ad 0)), (1, .int p0), (2, .int p1), (3, .int p2), (4, .int p3), (5, .int p4), (6, .int p5)] := hl
  have hi2 : ∀ w ∈ wsX20, w ∈ wsX4_copy := by decide +kernel
  obtain ⟨f_x, ⟨fd, f_d, hfd⟩, hbk, hnn, ⟨⟨fS, f_ss, hfS⟩, hsc⟩, ⟨f_h, hch, hnx, hhe⟩, f_t⟩ := id hC
  have f_x : pAt h (ad 0) (oX (ad 1) (ad 2) (ad 3) (ad 4) (ad 5) (ad 6)) := f_x
  have f_t : pAt h (ad 6) (aI Y 8 tl) := f_t
  have f_x0 := f_x
  refine lv_aload_n hx hb dX4_copy_0 rfl (lv_at hl 0 rfl) ?_
  refine q_new (fs := [.int 0, .int 0, .int 0, .int 0, .int 0, .int 0]) (ci := 2) (C := RX2) (T := TX2) (N := 6) (ty0 := tyX2) F rfl hi2 tyX2_ok (by decide +kernel) (by decide +kernel) (by decide +kernel) hK hw hA (fun j hj => by rcases (show j = 0 ∨ j = 1 ∨ j = 2 ∨ j = 3 ∨ j = 4 ∨ j = 5 by omega) with rfl | rfl | rfl | rfl | rfl | rfl <;> rfl) (Nat.le_of_ble_eq_true rfl) (Nat.le_of_ble_eq_true rfl) dX4_copy_1 (fun q_1 h_1 H f_np fr_1 nq_1 hw => ?_)
  have n_x_np := nq_1 _ _ f_x
  have n_d_np := nq_1 _ _ f_d
  have n_ss_np := nq_1 _ _ f_ss
  have n_h_np := nq_1 _ _ f_h
  have n_t_np := nq_1 _ _ f_t
  have f_x := fr_1.none f_x
  have f_d := fr_1.none f_d
  have f_ss := fr_1.none f_ss
  have f_h := fr_1.none f_h
  have f_t := fr_1.none f_t
  refine lv_dup hx hb dX4_copy_4 rfl ?_
  refine lv_iload_n hx hb dX4_copy_5 rfl (lv_at hl 1 rfl) ?_
  refine lv_iload_n hx hb dX4_copy_6 rfl (lv_at hl 2 rfl) ?_
  refine lv_iload_n hx hb dX4_copy_7 rfl (lv_at hl 3 rfl) ?_
  refine lv_iload hx hb dX4_copy_8 (lv_at hl 4 rfl) ?_
  refine lv_iload hx hb dX4_copy_10 (lv_at hl 5 rfl) ?_
  refine lv_iload hx hb dX4_copy_12 (lv_at hl 6 rfl) ?_
  refine (c_X2_init l G Y _ _ _ _ _ _ _ _ f_np).callI F (cwI 6 hts gX4_copy_X2_init rfl rfl rfl (hts (.initialized RX2) (by decide +kernel)) (hts (.methodLink RX4 79 yX2_init) (by decide +kernel)) (hts (.instanceMethod yX2_init) (by decide +kernel)) rfl (by decide +kernel) ⟨Nat.le_of_ble_eq_true rfl, Nat.le_of_ble_eq_true rfl⟩) hK hw hA rfl rfl hl.1 (Nat.le_of_ble_eq_true rfl) dX4_copy_14 ⟨Nat.le_of_ble_eq_true rfl, Nat.le_of_ble_eq_true rfl⟩ (fun h_14 H locs hp_14 hw => ?_)
  obtain ⟨frI, f_np⟩ := hp_14
  have frN : pFr h h_14 [] := fun a e _ q => frI.one (fr_1.none q) (nq_1 a e q)
  have hC1 := hC.grow frN
  have f_x := frN.none f_x0
  refine (c_X4_perform l G Y _ _ _ _ _ _ _ _ _ _ _ _ _ _ _ _ _ _ _ _ _ _ _ _ _ hC1 f_np).callV F (cwV 1 hts gX4_copy_X4_perform rfl rfl rfl (by decide +kernel) ⟨Nat.le_of_ble_eq_true rfl, Nat.le_of_ble_eq_true rfl⟩) hK hw hA (p_recv hK hw f_x rfl) rfl rfl hl.1 (Nat.le_of_ble_eq_true rfl) dX4_copy_17 ⟨Nat.le_of_ble_eq_true rfl, Nat.le_of_ble_eq_true rfl⟩ (fun r_17 h_17 H locs hp_17 hw => ?_)
  exact ct_iret hx hb hr (vp_nar_int _) hlocks hK hw dX4_copy_20 (Nat.le_of_ble_eq_true rfl) (Nat.le_of_ble_eq_true rfl) hp_17

set_option maxHeartbeats 4000000 in
set_option maxRecDepth 100000 in
theorem c_X4_order (l : Launch) (G : va_G) (Y : Nat → ClassId) (h : PH) (ad dk : Nat → Nat) (BK : List Nat) (bS : Nat → Int32) (bN : Nat → Nat) (bV : Nat → Nat → Int64) (bT : Nat → Nat → Int32) (vA sA : Nat → Nat) (ink cop : Nat → Int32) (wai : Nat → Nat) (O : Nat → Nat → Ord) (nx he : Nat) (C : Nat → Nat → Int32) (tl : Nat → Int32) (p0 p1 p2 p3 p4 p5 : Int32) (hC : CRep Y h ad (dk, (BK, bS, bN, bV, bT, vA, sA), (ink, cop, wai, O), (nx, he, C), tl)) : ctI l G Y pw yX4_order wsX4_order ({ frames := 2, cells := 1, slots := 6, locals := 60 }) [.ref (ad 0), .int p0, .int p1, .int p2, .int p3, .int p4, .int p5] h (fun r h' => (((isS p0 ∧ isD p1 ∧ isD p3) ∧ wai (cl p0) < 8) ∧ r = nI (wai (cl p0) + 1) ∧ CRep Y h' ad (dk, (BK, bS, bN, bV, bT, vA, sA), (ink, cop, va_up wai (cl p0) (wai (cl p0) + 1), va_up O (cl p0) (va_up (O (cl p0)) (wai (cl p0)) (p1, p2, p3, p4, p5))), (nx, he, C), tl)) ∨ (¬ ((isS p0 ∧ isD p1 ∧ isD p3) ∧ wai (cl p0) < 8) ∧ r = -99 ∧ CRep Y h' ad (dk, (BK, bS, bN, bV, bT, vA, sA), (ink, cop, wai, O), (nx, he, C), tl))) := by
  refine ctI.of (cc := cX4_order) (maxL := 8) (ret := (some .int)) (by decide +kernel) rfl (Nat.le_of_ble_eq_true rfl) ?_
  intro A p e s m below meth c ls hB
  obtain ⟨F, hr, hlocks, hnm, hK, hA, hw, hl⟩ := hB
  obtain ⟨hx, hb, hml, hown, hts⟩ := id F
  have hl : lv_has ls 8 [(0, .ref (ad 0)), (1, .int p0), (2, .int p1), (3, .int p2), (4, .int p3), (5, .int p4), (6, .int p5)] := hl
  have hi2 : ∀ w ∈ wsX20, w ∈ wsX4_order := by decide +kernel
  have hi4 : ∀ w ∈ wsX40, w ∈ wsX4_order := by decide +kernel
  have hl27 : Cond.fieldLink RX4 27 "Scriptorium" "scribes" "[LScriptorium$Scribe;" ∈ wsX4_order := by decide +kernel
  obtain ⟨f_x, ⟨fd, f_d, hfd⟩, hbk, hnn, ⟨⟨fS, f_ss, hfS⟩, hsc⟩, ⟨f_h, hch, hnx, hhe⟩, f_t⟩ := id hC
  have f_x : pAt h (ad 0) (oX (ad 1) (ad 2) (ad 3) (ad 4) (ad 5) (ad 6)) := f_x
  have f_t : pAt h (ad 6) (aI Y 8 tl) := f_t
  refine q_new (fs := [.int 0, .int 0, .int 0, .int 0, .int 0, .int 0]) (ci := 2) (C := RX2) (T := TX2) (N := 6) (ty0 := tyX2) F rfl hi2 tyX2_ok (by decide +kernel) (by decide +kernel) (by decide +kernel) hK hw hA (fun j hj => by rcases (show j = 0 ∨ j = 1 ∨ j = 2 ∨ j = 3 ∨ j = 4 ∨ j = 5 by omega) with rfl | rfl | rfl | rfl | rfl | rfl <;> rfl) (Nat.le_of_ble_eq_true rfl) (Nat.le_of_ble_eq_true rfl) dX4_order_0 (fun q_0 h_0 H f_np fr_0 nq_0 hw => ?_)
  have n_x_np := nq_0 _ _ f_x
  have n_d_np := nq_0 _ _ f_d
  have n_ss_np := nq_0 _ _ f_ss
  have n_h_np := nq_0 _ _ f_h
  have n_t_np := nq_0 _ _ f_t
  have f_x := fr_0.none f_x
  have f_d := fr_0.none f_d
  have f_ss := fr_0.none f_ss
  have f_h := fr_0.none f_h
  have f_t := fr_0.none f_t
  refine lv_dup hx hb dX4_order_3 rfl ?_
  refine lv_iload_n hx hb dX4_order_4 rfl (lv_at hl 1 rfl) ?_
  refine lv_iload_n hx hb dX4_order_5 rfl (lv_at hl 2 rfl) ?_
  refine lv_iload_n hx hb dX4_order_6 rfl (lv_at hl 3 rfl) ?_
  refine lv_iload hx hb dX4_order_7 (lv_at hl 4 rfl) ?_
  refine lv_iload hx hb dX4_order_9 (lv_at hl 5 rfl) ?_
  refine lv_iload hx hb dX4_order_11 (lv_at hl 6 rfl) ?_
  refine (c_X2_init l G Y _ _ _ _ _ _ _ _ f_np).callI F (cwI 6 hts gX4_order_X2_init rfl rfl rfl (hts (.initialized RX2) (by decide +kernel)) (hts (.methodLink RX4 79 yX2_init) (by decide +kernel)) (hts (.instanceMethod yX2_init) (by decide +kernel)) rfl (by decide +kernel) ⟨Nat.le_of_ble_eq_true rfl, Nat.le_of_ble_eq_true rfl⟩) hK hw hA rfl rfl hl.1 (Nat.le_of_ble_eq_true rfl) dX4_order_13 ⟨Nat.le_of_ble_eq_true rfl, Nat.le_of_ble_eq_true rfl⟩ (fun h_13 H locs hp_13 hw => ?_)
  obtain ⟨frI, f_np⟩ := hp_13
  have frN : pFr h h_13 [] := fun a e _ q => frI.one (fr_0.none q) (nq_0 a e q)
  have hC1 := hC.grow frN
  obtain ⟨f_x, ⟨fd, f_d, hfd⟩, hbk, hnn, ⟨⟨fS, f_ss, hfS⟩, hsc⟩, ⟨f_h, hch, hnx, hhe⟩, f_t⟩ := id hC1
  have f_x : pAt h_13 (ad 0) (oX (ad 1) (ad 2) (ad 3) (ad 4) (ad 5) (ad 6)) := f_x
  refine lv_astore (lv' := [(7, .ref _), (0, .ref _), (1, .int _), (2, .int _), (3, .int _), (4, .int _), (5, .int _), (6, .int _)]) hx hb dX4_order_16 hl (by decide) rfl (fun ls hl => ?_)
  refine lv_aload hx hb dX4_order_18 (lv_at hl 0 rfl) ?_
  refine (c_X4_isPossible l G Y _ _ _ _ _ _ _ _ f_np).callS F (va_cwS 1 hts gX4_order_X4_isPossible rfl rfl rfl (by decide +kernel) ⟨Nat.le_of_ble_eq_true rfl, Nat.le_of_ble_eq_true rfl⟩) hK hw hA rfl rfl hl.1 (Nat.le_of_ble_eq_true rfl) dX4_order_20 ⟨Nat.le_of_ble_eq_true rfl, Nat.le_of_ble_eq_true rfl⟩ (fun r_20 h_20 H locs hp_20 hw => ?_)
  obtain ⟨eh_20, hp_20⟩ := hp_20
  rw [eh_20] at hw
  rcases hp_20 with ⟨hq_20, rfl⟩ | ⟨hq_20, rfl⟩
  · skip
    refine lv_if_eq (tgt := 40) hx hb dX4_order_23 (by decide) (fun c_23 => ?_) (fun c_23 => ?_)
    · exact absurd c_23 (by decide)
    · skip
      refine lv_aload_n hx hb dX4_order_26 rfl (lv_at hl 1 rfl) ?_
      refine p_get (ci := 4) (C := RX4) (T := TX4) (N := 6) 3 F rfl hi4 hl27 (by decide) hK hw f_x rfl dX4_order_27 ?_
      refine lv_iload_n hx hb dX4_order_30 rfl (lv_at hl 2 rfl) ?_
      refine p_ldS F hK hw f_ss hq_20.1.in (hfS _ hq_20.1.lt) dX4_order_31 ?_
      obtain ⟨f_sc, hw8, gO, f_or, hO⟩ := hsc _ hq_20.1.lt
      refine lv_aload hx hb dX4_order_32 (lv_at hl 0 rfl) ?_
      refine (c_X3_addOrder l G Y _ _ _ _ _ _ _ _ _ f_sc f_or f_np hw8 (f_np.kinds f_sc (by simp))).callV F (cwV 1 hts gX4_order_X3_addOrder rfl rfl rfl (by decide +kernel) ⟨Nat.le_of_ble_eq_true rfl, Nat.le_of_ble_eq_true rfl⟩) hK hw hA (p_recv hK hw f_sc rfl) rfl rfl hl.1 (Nat.le_of_ble_eq_true rfl) dX4_order_34 ⟨Nat.le_of_ble_eq_true rfl, Nat.le_of_ble_eq_true rfl⟩ (fun r_34 h_34 H locs hp_34 hw => ?_)
      refine lv_goto (tgt := 42) hx hb dX4_order_37 (by decide) ?_
      rcases hp_34 with ⟨q1, rfl, eh⟩ | ⟨q1, rfl, frO, g1, g2⟩
      · rw [eh] at hw
        exact ct_iret hx hb hr (vp_nar_int _) hlocks hK hw dX4_order_42 (Nat.le_of_ble_eq_true rfl) (Nat.le_of_ble_eq_true rfl) (Or.inr ⟨fun q => absurd q.2 (by omega), rfl, hC1⟩)
      · refine ct_iret hx hb hr (vp_nar_int _) hlocks hK hw dX4_order_42 (Nat.le_of_ble_eq_true rfl) (Nat.le_of_ble_eq_true rfl) (Or.inl ⟨⟨hq_20, q1⟩, rfl, hC1.ords hq_20.1.lt frO (by omega) g1 g2 (fun k hk => ?_)⟩)
        by_cases e : k = wai (cl p0)
        · subst e
          refine ⟨_, va_up_self _ _ _, ?_⟩
          rw [va_up_self]
          obtain ⟨s9, hs9, e9⟩ := hq_20.1.nat
          show pAt h_13 q_0 (oPas (nI (cl p0)) p1 p2 p3 p4 p5)
          rw [e9, cl_nI (by omega), ← e9]
          exact f_np
        · obtain ⟨q, e1, e2⟩ := hO k (by omega)
          exact ⟨q, (va_up_ne _ _ e).trans e1, by rw [va_up_ne _ _ e]; exact e2⟩
  · skip
    refine lv_if_eq (tgt := 40) hx hb dX4_order_23 (by decide) (fun c_23 => ?_) (fun c_23 => ?_)
    · skip
      refine lv_bipush (v := -99) hx hb dX4_order_40 (by decide) ?_
      exact ct_iret hx hb hr (vp_nar_int _) hlocks hK hw dX4_order_42 (Nat.le_of_ble_eq_true rfl) (Nat.le_of_ble_eq_true rfl) (Or.inr ⟨fun q => hq_20 q.1, rfl, hC1⟩)
    · exact absurd rfl c_23
