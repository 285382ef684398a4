set_option maxHeartbeats 4000000 in
set_option maxRecDepth 100000 in
theorem c_X4_day (l : Launch) (G : va_G) (Y : Nat → ClassId) (h : PH) (ad dk : Nat → Nat) (BK : List Nat) (bS : Nat → Int32) (bN : Nat → Nat) (bV : Nat → Nat → Int64) (bT : Nat → Nat → Int32) (vA sA : Nat → Nat) (ink cop : Nat → Int32) (wai : Nat → Nat) (O : Nat → Nat → Ord) (nx he : Nat) (C : Nat → Nat → Int32) (tl : Nat → Int32) (hC : CRep Y h ad (dk, (BK, bS, bN, bV, bT, vA, sA), (ink, cop, wai, O), (nx, he, C), tl)) : ctI l G Y pw yX4_day wsX4_day ({ frames := 5, cells := 0, slots := 0, locals := 200 }) [.ref (ad 0)] h (fun r h' => ∃ cs' n, CRep Y h' ad cs' ∧ cDayN 3 (dk, (BK, bS, bN, bV, bT, vA, sA), (ink, cop, wai, O), (nx, he, C), tl) cs' n ∧ r = nI n) := by
  refine ctI.of (cc := cX4_day) (maxL := 4) (ret := (some .int)) (by decide +kernel) rfl (Nat.le_of_ble_eq_true rfl) ?_
  intro A p e s m below meth c ls hB
  obtain ⟨F, hr, hlocks, hnm, hK, hA, hw, hl⟩ := hB
  obtain ⟨hx, hb, hml, hown, hts⟩ := id F
  have hl : lv_has ls 4 [(0, .ref (ad 0))] := hl
  have hi4 : ∀ w ∈ wsX40, w ∈ wsX4_day := by decide +kernel
  have hl27 : Cond.fieldLink RX4 27 "Scriptorium" "scribes" "[LScriptorium$Scribe;" ∈ wsX4_day := by decide +kernel
  refine lv_iconst (v := 0) hx hb dX4_day_0 (by decide) ?_
  refine lv_istore_n (lv' := [(1, .int _), (0, .ref _)]) hx hb dX4_day_1 rfl hl (by decide) rfl (fun ls hl => ?_)
  refine lv_iconst (v := 0) hx hb dX4_day_2 (by decide) ?_
  refine lv_istore_n (lv' := [(2, .int _), (1, .int _), (0, .ref _)]) hx hb dX4_day_3 rfl hl (by decide) rfl (fun ls hl => ?_)
  obtain ⟨U9, hU9⟩ : ∃ U9 : CSt, U9 = (dk, (BK, bS, bN, bV, bT, vA, sA), (ink, cop, wai, O), (nx, he, C), tl) := ⟨_, rfl⟩
  refine W_loop (σ := Nat × Nat × PH × CSt) 4 (fun n (q9 : Nat × Nat × PH × CSt) H locs ls => n = 3 - q9.1 ∧ q9.1 ≤ 3 ∧ cDayN q9.1 U9 q9.2.2.2 q9.2.1 ∧ CRep Y q9.2.2.1 ad q9.2.2.2 ∧ wW G A s.heap (pw q9.2.2.1) H locs ∧ lv_has ls 4 [(2, .int (nI q9.1)), (1, .int (nI q9.2.1)), (0, .ref (ad 0))]) ?_ (n := 3) (x := (0, 0, h, (dk, (BK, bS, bN, bV, bT, vA, sA), (ink, cop, wai, O), (nx, he, C), tl))) ⟨rfl, by omega, ⟨hU9.symm, rfl⟩, hC, hw, hl⟩
  intro n q9 H locs ls hI ih
  obtain ⟨sn, dn, h1, dk, ⟨BK, bS, bN, bV, bT, vA, sA⟩, ⟨ink, cop, wai, O⟩, ⟨nx, he, C⟩, tl⟩ := q9
  obtain ⟨hn, hsn, hN, hC1, hw, hl⟩ := hI
  dsimp only at hn hsn hN hC1 hw hl
  refine lv_iload_n hx hb dX4_day_4 rfl (lv_at hl 0 rfl) ?_
  refine lv_iconst (v := 3) hx hb dX4_day_5 (by decide) ?_
  refine lv_icmp_ge (tgt := 51) hx hb dX4_day_6 (by decide) (fun c_6 => ?_) (fun c_6 => ?_)
  · skip
    have hs3 : sn = 3 := by
      have := le_of_c (a := 3) (by decide) (by omega) c_6
      omega
    subst hs3
    refine lv_iload_n hx hb dX4_day_51 rfl (lv_at hl 1 rfl) ?_
    exact ct_iret hx hb hr (vp_nar_int _) hlocks hK hw dX4_day_52 (Nat.le_of_ble_eq_true rfl) (Nat.le_of_ble_eq_true rfl) ⟨_, dn, hC1, by rw [← hU9]; exact hN, rfl⟩
  · skip
    have hs3 : sn < 3 := lt_of_c (a := 3) (by decide) (by omega) c_6
    have hcs : cl (nI sn) = sn := cl_nI (by omega)
    obtain ⟨f_x, ⟨fd, f_d, hfd⟩, hbk, hnn, ⟨⟨fS, f_ss, hfS⟩, hsc⟩, ⟨f_h, hch, hnx, hhe⟩, f_t⟩ := id hC1
    have f_x : pAt h1 (ad 0) (oX (ad 1) (ad 2) (ad 3) (ad 4) (ad 5) (ad 6)) := f_x
    obtain ⟨f_sc, hw8, gO, f_or, hO⟩ := hsc sn hs3
    refine lv_aload_n hx hb dX4_day_9 rfl (lv_at hl 2 rfl) ?_
    refine p_get (ci := 4) (C := RX4) (T := TX4) (N := 6) 3 F rfl hi4 hl27 (by decide) hK hw f_x rfl dX4_day_10 ?_
    refine lv_iload_n hx hb dX4_day_13 rfl (lv_at hl 0 rfl) ?_
    refine p_ldS F hK hw f_ss (nI_isS hs3).in (by rw [hcs]; exact hfS sn hs3) dX4_day_14 ?_
    refine (c_X3_firstOrder l G Y _ _ _ _ _ _ _ f_sc f_or hw8).callV F (cwV 0 hts gX4_day_X3_firstOrder rfl rfl rfl (by decide +kernel) ⟨Nat.le_of_ble_eq_true rfl, Nat.le_of_ble_eq_true rfl⟩) hK hw hA (p_recv hK hw f_sc rfl) rfl rfl hl.1 (Nat.le_of_ble_eq_true rfl) dX4_day_15 ⟨Nat.le_of_ble_eq_true rfl, Nat.le_of_ble_eq_true rfl⟩ (fun r_15 h_15 H locs hp_15 hw => ?_)
    obtain ⟨eh_15, hp_15⟩ := hp_15
    rw [eh_15] at hw
    rcases hp_15 with ⟨hw0, rfl⟩ | ⟨hw0, hr0⟩
    · skip
      refine lv_astore_nN (lv' := [(3, .null), (2, .int _), (1, .int _), (0, .ref _)]) hx hb dX4_day_18 rfl hl (by decide) rfl (fun ls hl => ?_)
      refine lv_aload_nN hx hb dX4_day_19 rfl (lv_at hl 0 rfl) ?_
      refine lv_ifnullN (tgt := 45) hx hb dX4_day_20 (by decide) ?_
      refine lv_iinc (lv' := [(2, .int _), (3, .null), (1, .int _), (0, .ref _)]) hx hb dX4_day_45 hl (k := 1) rfl rfl (by decide) rfl (fun ls hl => ?_)
      refine lv_goto (tgt := 4) hx hb dX4_day_48 (by decide) ?_
      exact ih _ (sn + 1, dn + 0, h1, (dk, (BK, bS, bN, bV, bT, vA, sA), (ink, cop, wai, O), (nx, he, C), tl)) _ _ _ (by omega) ⟨rfl, by omega, ⟨_, dn, 0, hN, Or.inl ⟨hw0, rfl, rfl⟩, rfl⟩, hC1, hw, by
        have hl := lv_sub hl [0, 2, 3] rfl
        rw [nI_succ]; exact hl⟩
    · skip
      obtain ⟨q9, e1, e2⟩ := hO 0 hw0
      rw [e1] at hr0
      subst hr0
      have f_pq : pAt h1 q9 (oPas (nI sn) (O sn 0).1 (O sn 0).2.1 (O sn 0).2.2.1 (O sn 0).2.2.2.1 (O sn 0).2.2.2.2) := e2
      refine lv_astore_n (lv' := [(3, .ref _), (2, .int _), (1, .int _), (0, .ref _)]) hx hb dX4_day_18 rfl hl (by decide) rfl (fun ls hl => ?_)
      refine lv_aload_n hx hb dX4_day_19 rfl (lv_at hl 0 rfl) ?_
      refine lv_ifnull hx hb dX4_day_20 ?_
      refine lv_aload_n hx hb dX4_day_23 rfl (lv_at hl 3 rfl) ?_
      refine lv_aload_n hx hb dX4_day_24 rfl (lv_at hl 0 rfl) ?_
      refine (c_X4_perform l G Y _ _ _ _ _ _ _ _ _ _ _ _ _ _ _ _ _ _ _ _ _ _ _ _ _ hC1 f_pq).callV F (cwV 1 hts gX4_day_X4_perform rfl rfl rfl (by decide +kernel) ⟨Nat.le_of_ble_eq_true rfl, Nat.le_of_ble_eq_true rfl⟩) hK hw hA (p_recv hK hw f_x rfl) rfl rfl hl.1 (Nat.le_of_ble_eq_true rfl) dX4_day_25 ⟨Nat.le_of_ble_eq_true rfl, Nat.le_of_ble_eq_true rfl⟩ (fun r_25 h_25 H locs hp_25 hw => ?_)
      obtain ⟨cs1, hC2, hpf⟩ := hp_25
      obtain ⟨bV', bT', ink', cop', nx', he', C', tl', rfl⟩ := cPerf_keep hpf
      obtain ⟨f_x, ⟨fd, f_d, hfd⟩, hbk, hnn, ⟨⟨fS, f_ss, hfS⟩, hsc⟩, ⟨f_h, hch, hnx, hhe⟩, f_t⟩ := id hC2
      have f_x : pAt h_25 (ad 0) (oX (ad 1) (ad 2) (ad 3) (ad 4) (ad 5) (ad 6)) := f_x
      obtain ⟨f_sc, hw8, gO, f_or, hO⟩ := hsc sn hs3
      refine lv_bipush (v := -50) hx hb dX4_day_28 (by decide) ?_
      refine lv_icmp_eq (tgt := 45) hx hb dX4_day_30 (by decide) (fun c_30 => ?_) (fun c_30 => ?_)
      · skip
        refine lv_iinc (lv' := [(2, .int _), (3, .ref _), (1, .int _), (0, .ref _)]) hx hb dX4_day_45 hl (k := 1) rfl rfl (by decide) rfl (fun ls hl => ?_)
        refine lv_goto (tgt := 4) hx hb dX4_day_48 (by decide) ?_
        exact ih _ (sn + 1, dn + 0, h_25, (dk, (BK, bS, bN, bV', bT', vA, sA), (ink', cop', wai, O), (nx', he', C'), tl')) _ _ _ (by omega) ⟨rfl, by omega, ⟨_, dn, 0, hN, Or.inr ⟨hw0, _, _, hpf, Or.inl ⟨c_30, rfl, rfl⟩⟩, rfl⟩, hC2, hw, by
          have hl := lv_sub hl [0, 2, 3] rfl
          rw [nI_succ]; exact hl⟩
      · skip
        refine lv_aload_n hx hb dX4_day_33 rfl (lv_at hl 3 rfl) ?_
        refine p_get (ci := 4) (C := RX4) (T := TX4) (N := 6) 3 F rfl hi4 hl27 (by decide) hK hw f_x rfl dX4_day_34 ?_
        refine lv_iload_n hx hb dX4_day_37 rfl (lv_at hl 1 rfl) ?_
        refine p_ldS F hK hw f_ss (nI_isS hs3).in (by rw [hcs]; exact hfS sn hs3) dX4_day_38 ?_
        refine (c_X3_dropFirstOrder l G Y _ _ _ _ _ _ _ f_sc f_or hw8 hw0 (fun k hk => by
          obtain ⟨q, e1, e2⟩ := hO k hk
          exact ⟨q, _, e1, e2⟩)).callV F (cwV 0 hts gX4_day_X3_dropFirstOrder rfl rfl rfl (by decide +kernel) ⟨Nat.le_of_ble_eq_true rfl, Nat.le_of_ble_eq_true rfl⟩) hK hw hA (p_recv hK hw f_sc rfl) rfl rfl hl.1 (Nat.le_of_ble_eq_true rfl) dX4_day_39 ⟨Nat.le_of_ble_eq_true rfl, Nat.le_of_ble_eq_true rfl⟩ (fun h_39 H locs hp_39 hw => ?_)
        obtain ⟨frD, g1, f9, g2, g3⟩ := hp_39
        have hC3 := hC2.ords (Oi := fun k => O sn (k + 1)) hs3 frD (by omega) g2 g1 (fun k hk => by
          obtain ⟨q, e1, e2⟩ := hO (k + 1) (by omega)
          exact ⟨q, (g3 k (by omega)).trans e1, e2⟩)
        refine lv_iinc (lv' := [(1, .int _), (3, .ref _), (2, .int _), (0, .ref _)]) hx hb dX4_day_42 hl (k := 2) rfl rfl (by decide) rfl (fun ls hl => ?_)
        refine lv_iinc (lv' := [(2, .int _), (1, .int _), (3, .ref _), (0, .ref _)]) hx hb dX4_day_45 hl (k := 2) rfl rfl (by decide) rfl (fun ls hl => ?_)
        refine lv_goto (tgt := 4) hx hb dX4_day_48 (by decide) ?_
        exact ih _ (sn + 1, dn + 1, h_39, (dk, (BK, bS, bN, bV', bT', vA, sA), (ink', cop', va_up wai sn (wai sn - 1), va_up O sn (fun k => O sn (k + 1))), (nx', he', C'), tl')) _ _ _ (by omega) ⟨rfl, by omega, ⟨_, dn, 1, hN, Or.inr ⟨hw0, _, _, hpf, Or.inr ⟨c_30, rfl, rfl⟩⟩, rfl⟩, hC3, hw, by
          have hl := lv_sub hl [0, 1, 3] rfl
          rw [nI_succ, nI_succ]; exact hl⟩

set_option maxHeartbeats 4000000 in
set_option maxRecDepth 100000 in
theorem c_X5_init (l : Launch) (G : va_G) (Y : Nat → ClassId) (h : PH) (x : Nat) (f_x : pAt h x (.inr (5, [.null, .null, .null, .null, .null, .null, .null, .null, .null, .null, .int 0]))) : ctV l G Y pw yX5_init wsX5_init ({ frames := 1, cells := 10, slots := 459, locals := 20 }) [.ref x] h (fun h' => ∃ (ad : Nat → Nat) (df kf : Nat → Int32), (∀ i, i < 6 → df i = -1) ∧ (∀ i, i < 3 → kf i = 100) ∧ (∀ q, q ∈ mW Y x ad (df, (fun _ => 0), (fun _ => 0), (fun _ => 0), kf, (fun _ => 0), (fun _ => 0), (fun _ => 0), (fun _ => 0), (fun _ => 0), 0) → pAt h' q.1 q.2) ∧ (mW Y x ad (df, (fun _ => 0), (fun _ => 0), (fun _ => 0), kf, (fun _ => 0), (fun _ => 0), (fun _ => 0), (fun _ => 0), (fun _ => 0), 0)).Pairwise (fun p q => p.1 ≠ q.1)) := by
  refine ctV.of (cc := cX5_init) (maxL := 1) (ret := none) (by decide +kernel) rfl (Nat.le_of_ble_eq_true rfl) ?_
  intro A p e s m below meth c ls hB
  obtain ⟨F, hr, hlocks, hnm, hK, hA, hw, hl⟩ := hB
  obtain ⟨hx, hb, hml, hown, hts⟩ := id F
  have hl : lv_has ls 1 [(0, .ref x)] := hl
  have hi5 : ∀ w ∈ wsX50, w ∈ wsX5_init := by decide +kernel
  have hl7 : Cond.fieldLink RX5 7 "ScriptoriumModel" "desk" "[I" ∈ wsX5_init := by decide +kernel
  have hl13 : Cond.fieldLink RX5 13 "ScriptoriumModel" "script" "[I" ∈ wsX5_init := by decide +kernel
  have hl16 : Cond.fieldLink RX5 16 "ScriptoriumModel" "size" "[I" ∈ wsX5_init := by decide +kernel
  have hl19 : Cond.fieldLink RX5 19 "ScriptoriumModel" "sign" "[J" ∈ wsX5_init := by decide +kernel
  have hl23 : Cond.fieldLink RX5 23 "ScriptoriumModel" "ink" "[I" ∈ wsX5_init := by decide +kernel
  have hl26 : Cond.fieldLink RX5 26 "ScriptoriumModel" "copied" "[I" ∈ wsX5_init := by decide +kernel
  have hl29 : Cond.fieldLink RX5 29 "ScriptoriumModel" "wait" "[I" ∈ wsX5_init := by decide +kernel
  have hl32 : Cond.fieldLink RX5 32 "ScriptoriumModel" "waits" "[I" ∈ wsX5_init := by decide +kernel
  have hl35 : Cond.fieldLink RX5 35 "ScriptoriumModel" "chronicle" "[I" ∈ wsX5_init := by decide +kernel
  have hl38 : Cond.fieldLink RX5 38 "ScriptoriumModel" "counts" "[I" ∈ wsX5_init := by decide +kernel
  refine lv_aload_n hx hb dX5_init_0 rfl (lv_at hl 0 rfl) ?_
  refine W.objInit hx hb hown (hts (.methodLink RX5 1 objectInit) (by decide +kernel)) (hts (.instanceMethod objectInit) (by decide +kernel)) (hts (.code objectInit ⟨#[0xb1]⟩ 1 none) (by decide +kernel)) rfl (by rw [hml]; exact hl.1) rfl dX5_init_1 (Nat.le_of_ble_eq_true rfl) (Nat.le_of_ble_eq_true rfl) ?_
  refine W.eq (g2 := F0 m 4 ls []) rfl ?_
  refine lv_aload_n hx hb dX5_init_4 rfl (lv_at hl 0 rfl) ?_
  refine lv_bipush (v := 6) hx hb dX5_init_5 (by decide) ?_
  refine q_newI (N' := 6) F (by decide +kernel) hK hw hA (by decide) rfl (by decide) (Nat.le_of_ble_eq_true rfl) (Nat.le_of_ble_eq_true rfl) dX5_init_7 (fun q_7 h_7 H f_d fr_7 nq_7 hw => ?_)
  have n_x_d := nq_7 _ _ f_x
  have f_x := fr_7.none f_x
  refine lv_dup hx hb dX5_init_9 rfl ?_
  refine lv_iconst (v := 0) hx hb dX5_init_10 (by decide) ?_
  refine lv_iconst (v := -1) hx hb dX5_init_11 (by decide) ?_
  have f_d_0 := f_d
  refine q_stI F hK hw f_d (by unfold vp_in; decide) dX5_init_12 (fun h_12 H locs f_d fr_12 hw => ?_)
  have f_x := fr_12.one f_x n_x_d
  refine lv_dup hx hb dX5_init_13 rfl ?_
  refine lv_iconst (v := 1) hx hb dX5_init_14 (by decide) ?_
  refine lv_iconst (v := -1) hx hb dX5_init_15 (by decide) ?_
  have f_d_0 := f_d
  refine q_stI F hK hw f_d (by unfold vp_in; decide) dX5_init_16 (fun h_16 H locs f_d fr_16 hw => ?_)
  have f_x := fr_16.one f_x n_x_d
  refine lv_dup hx hb dX5_init_17 rfl ?_
  refine lv_iconst (v := 2) hx hb dX5_init_18 (by decide) ?_
  refine lv_iconst (v := -1) hx hb dX5_init_19 (by decide) ?_
  have f_d_0 := f_d
  refine q_stI F hK hw f_d (by unfold vp_in; decide) dX5_init_20 (fun h_20 H locs f_d fr_20 hw => ?_)
  have f_x := fr_20.one f_x n_x_d
  refine lv_dup hx hb dX5_init_21 rfl ?_
  refine lv_iconst (v := 3) hx hb dX5_init_22 (by decide) ?_
  refine lv_iconst (v := -1) hx hb dX5_init_23 (by decide) ?_
  have f_d_0 := f_d
  refine q_stI F hK hw f_d (by unfold vp_in; decide) dX5_init_24 (fun h_24 H locs f_d fr_24 hw => ?_)
  have f_x := fr_24.one f_x n_x_d
  refine lv_dup hx hb dX5_init_25 rfl ?_
  refine lv_iconst (v := 4) hx hb dX5_init_26 (by decide) ?_
  refine lv_iconst (v := -1) hx hb dX5_init_27 (by decide) ?_
  have f_d_0 := f_d
  refine q_stI F hK hw f_d (by unfold vp_in; decide) dX5_init_28 (fun h_28 H locs f_d fr_28 hw => ?_)
  have f_x := fr_28.one f_x n_x_d
  refine lv_dup hx hb dX5_init_29 rfl ?_
  refine lv_iconst (v := 5) hx hb dX5_init_30 (by decide) ?_
  refine lv_iconst (v := -1) hx hb dX5_init_31 (by decide) ?_
  have f_d_0 := f_d
  refine q_stI F hK hw f_d (by unfold vp_in; decide) dX5_init_32 (fun h_32 H locs f_d fr_32 hw => ?_)
  have f_x := fr_32.one f_x n_x_d
  have f_x_0 := f_x
  refine q_putF (fs' := [_, _, _, _, _, _, _, _, _, _, _]) (ci := 5) (C := RX5) (T := TX5) (N := 11) (ty0 := tyX5) (ty := .array .int) 0 F rfl hi5 tyX5_ok nmX5 hl7 (by decide) rfl hnm rfl (by decide +kernel) rfl rfl (Nat.le_of_ble_eq_true rfl) hK hw f_x rfl dX5_init_33 (fun h_33 H locs f_x fr_33 hw => ?_)
  have f_d := fr_33.one f_d n_x_d.symm
  refine lv_aload_n hx hb dX5_init_36 rfl (lv_at hl 0 rfl) ?_
  refine lv_bipush (v := 6) hx hb dX5_init_37 (by decide) ?_
  refine q_newI (N' := 6) F (by decide +kernel) hK hw hA (by decide) rfl (by decide) (Nat.le_of_ble_eq_true rfl) (Nat.le_of_ble_eq_true rfl) dX5_init_39 (fun q_39 h_39 H f_sc fr_39 nq_39 hw => ?_)
  have n_x_sc := nq_39 _ _ f_x
  have n_d_sc := nq_39 _ _ f_d
  have f_x := fr_39.none f_x
  have f_d := fr_39.none f_d
  have f_x_0 := f_x
  refine q_putF (fs' := [_, _, _, _, _, _, _, _, _, _, _]) (ci := 5) (C := RX5) (T := TX5) (N := 11) (ty0 := tyX5) (ty := .array .int) 1 F rfl hi5 tyX5_ok nmX5 hl13 (by decide) rfl hnm rfl (by decide +kernel) rfl rfl (Nat.le_of_ble_eq_true rfl) hK hw f_x rfl dX5_init_41 (fun h_41 H locs f_x fr_41 hw => ?_)
  have f_d := fr_41.one f_d n_x_d.symm
  have f_sc := fr_41.one f_sc n_x_sc.symm
  refine lv_aload_n hx hb dX5_init_44 rfl (lv_at hl 0 rfl) ?_
  refine lv_bipush (v := 6) hx hb dX5_init_45 (by decide) ?_
  refine q_newI (N' := 6) F (by decide +kernel) hK hw hA (by decide) rfl (by decide) (Nat.le_of_ble_eq_true rfl) (Nat.le_of_ble_eq_true rfl) dX5_init_47 (fun q_47 h_47 H f_sz fr_47 nq_47 hw => ?_)
  have n_x_sz := nq_47 _ _ f_x
  have n_d_sz := nq_47 _ _ f_d
  have n_sc_sz := nq_47 _ _ f_sc
  have f_x := fr_47.none f_x
  have f_d := fr_47.none f_d
  have f_sc := fr_47.none f_sc
  have f_x_0 := f_x
  refine q_putF (fs' := [_, _, _, _, _, _, _, _, _, _, _]) (ci := 5) (C := RX5) (T := TX5) (N := 11) (ty0 := tyX5) (ty := .array .int) 2 F rfl hi5 tyX5_ok nmX5 hl16 (by decide) rfl hnm rfl (by decide +kernel) rfl rfl (Nat.le_of_ble_eq_true rfl) hK hw f_x rfl dX5_init_49 (fun h_49 H locs f_x fr_49 hw => ?_)
  have f_d := fr_49.one f_d n_x_d.symm
  have f_sc := fr_49.one f_sc n_x_sc.symm
  have f_sz := fr_49.one f_sz n_x_sz.symm
  refine lv_aload_n hx hb dX5_init_52 rfl (lv_at hl 0 rfl) ?_
  refine lv_sipush (v := 240) hx hb dX5_init_53 (by decide) ?_
  refine q_newJ (N' := 240) F (by decide +kernel) hK hw hA (by decide) rfl (by decide) (Nat.le_of_ble_eq_true rfl) (Nat.le_of_ble_eq_true rfl) dX5_init_56 (fun q_56 h_56 H f_sg fr_56 nq_56 hw => ?_)
  have n_x_sg := nq_56 _ _ f_x
  have n_d_sg := nq_56 _ _ f_d
  have n_sc_sg := nq_56 _ _ f_sc
  have n_sz_sg := nq_56 _ _ f_sz
  have f_x := fr_56.none f_x
  have f_d := fr_56.none f_d
  have f_sc := fr_56.none f_sc
  have f_sz := fr_56.none f_sz
  have f_x_0 := f_x
  refine q_putF (fs' := [_, _, _, _, _, _, _, _, _, _, _]) (ci := 5) (C := RX5) (T := TX5) (N := 11) (ty0 := tyX5) (ty := .array .long) 3 F rfl hi5 tyX5_ok nmX5 hl19 (by decide) rfl hnm rfl (by decide +kernel) rfl rfl (Nat.le_of_ble_eq_true rfl) hK hw f_x rfl dX5_init_58 (fun h_58 H locs f_x fr_58 hw => ?_)
  have f_d := fr_58.one f_d n_x_d.symm
  have f_sc := fr_58.one f_sc n_x_sc.symm
  have f_sz := fr_58.one f_sz n_x_sz.symm
  have f_sg := fr_58.one f_sg n_x_sg.symm
  refine lv_aload_n hx hb dX5_init_61 rfl (lv_at hl 0 rfl) ?_
  refine lv_iconst (v := 3) hx hb dX5_init_62 (by decide) ?_
  refine q_newI (N' := 3) F (by decide +kernel) hK hw hA (by decide) rfl (by decide) (Nat.le_of_ble_eq_true rfl) (Nat.le_of_ble_eq_true rfl) dX5_init_63 (fun q_63 h_63 H f_ik fr_63 nq_63 hw => ?_)
  have n_x_ik := nq_63 _ _ f_x
  have n_d_ik := nq_63 _ _ f_d
  have n_sc_ik := nq_63 _ _ f_sc
  have n_sz_ik := nq_63 _ _ f_sz
  have n_sg_ik := nq_63 _ _ f_sg
  have f_x := fr_63.none f_x
  have f_d := fr_63.none f_d
  have f_sc := fr_63.none f_sc
  have f_sz := fr_63.none f_sz
  have f_sg := fr_63.none f_sg
  refine lv_dup hx hb dX5_init_65 rfl ?_
  refine lv_iconst (v := 0) hx hb dX5_init_66 (by decide) ?_
  refine lv_bipush (v := 100) hx hb dX5_init_67 (by decide) ?_
  have f_ik_0 := f_ik
  refine q_stI F hK hw f_ik (by unfold vp_in; decide) dX5_init_69 (fun h_69 H locs f_ik fr_69 hw => ?_)
  have f_x := fr_69.one f_x n_x_ik
  have f_d := fr_69.one f_d n_d_ik
  have f_sc := fr_69.one f_sc n_sc_ik
  have f_sz := fr_69.one f_sz n_sz_ik
  have f_sg := fr_69.one f_sg n_sg_ik
  refine lv_dup hx hb dX5_init_70 rfl ?_
  refine lv_iconst (v := 1) hx hb dX5_init_71 (by decide) ?_
  refine lv_bipush (v := 100) hx hb dX5_init_72 (by decide) ?_
  have f_ik_0 := f_ik
  refine q_stI F hK hw f_ik (by unfold vp_in; decide) dX5_init_74 (fun h_74 H locs f_ik fr_74 hw => ?_)
  have f_x := fr_74.one f_x n_x_ik
  have f_d := fr_74.one f_d n_d_ik
  have f_sc := fr_74.one f_sc n_sc_ik
  have f_sz := fr_74.one f_sz n_sz_ik
  have f_sg := fr_74.one f_sg n_sg_ik
  refine lv_dup hx hb dX5_init_75 rfl ?_
  refine lv_iconst (v := 2) hx hb dX5_init_76 (by decide) ?_
  refine lv_bipush (v := 100) hx hb dX5_init_77 (by decide) ?_
  have f_ik_0 := f_ik
  refine q_stI F hK hw f_ik (by unfold vp_in; decide) dX5_init_79 (fun h_79 H locs f_ik fr_79 hw => ?_)
  have f_x := fr_79.one f_x n_x_ik
  have f_d := fr_79.one f_d n_d_ik
  have f_sc := fr_79.one f_sc n_sc_ik
  have f_sz := fr_79.one f_sz n_sz_ik
  have f_sg := fr_79.one f_sg n_sg_ik
  have f_x_0 := f_x
  refine q_putF (fs' := [_, _, _, _, _, _, _, _, _, _, _]) (ci := 5) (C := RX5) (T := TX5) (N := 11) (ty0 := tyX5) (ty := .array .int) 4 F rfl hi5 tyX5_ok nmX5 hl23 (by decide) rfl hnm rfl (by decide +kernel) rfl rfl (Nat.le_of_ble_eq_true rfl) hK hw f_x rfl dX5_init_80 (fun h_80 H locs f_x fr_80 hw => ?_)
  have f_d := fr_80.one f_d n_x_d.symm
  have f_sc := fr_80.one f_sc n_x_sc.symm
  have f_sz := fr_80.one f_sz n_x_sz.symm
  have f_sg := fr_80.one f_sg n_x_sg.symm
  have f_ik := fr_80.one f_ik n_x_ik.symm
  refine lv_aload_n hx hb dX5_init_83 rfl (lv_at hl 0 rfl) ?_
  refine lv_iconst (v := 3) hx hb dX5_init_84 (by decide) ?_
  refine q_newI (N' := 3) F (by decide +kernel) hK hw hA (by decide) rfl (by decide) (Nat.le_of_ble_eq_true rfl) (Nat.le_of_ble_eq_true rfl) dX5_init_85 (fun q_85 h_85 H f_cp fr_85 nq_85 hw => ?_)
  have n_x_cp := nq_85 _ _ f_x
  have n_d_cp := nq_85 _ _ f_d
  have n_sc_cp := nq_85 _ _ f_sc
  have n_sz_cp := nq_85 _ _ f_sz
  have n_sg_cp := nq_85 _ _ f_sg
  have n_ik_cp := nq_85 _ _ f_ik
  have f_x := fr_85.none f_x
  have f_d := fr_85.none f_d
  have f_sc := fr_85.none f_sc
  have f_sz := fr_85.none f_sz
  have f_sg := fr_85.none f_sg
  have f_ik := fr_85.none f_ik
  have f_x_0 := f_x
  refine q_putF (fs' := [_, _, _, _, _, _, _, _, _, _, _]) (ci := 5) (C := RX5) (T := TX5) (N := 11) (ty0 := tyX5) (ty := .array .int) 5 F rfl hi5 tyX5_ok nmX5 hl26 (by decide) rfl hnm rfl (by decide +kernel) rfl rfl (Nat.le_of_ble_eq_true rfl) hK hw f_x rfl dX5_init_87 (fun h_87 H locs f_x fr_87 hw => ?_)
  have f_d := fr_87.one f_d n_x_d.symm
  have f_sc := fr_87.one f_sc n_x_sc.symm
  have f_sz := fr_87.one f_sz n_x_sz.symm
  have f_sg := fr_87.one f_sg n_x_sg.symm
  have f_ik := fr_87.one f_ik n_x_ik.symm
  have f_cp := fr_87.one f_cp n_x_cp.symm
  refine lv_aload_n hx hb dX5_init_90 rfl (lv_at hl 0 rfl) ?_
  refine lv_bipush (v := 120) hx hb dX5_init_91 (by decide) ?_
  refine q_newI (N' := 120) F (by decide +kernel) hK hw hA (by decide) rfl (by decide) (Nat.le_of_ble_eq_true rfl) (Nat.le_of_ble_eq_true rfl) dX5_init_93 (fun q_93 h_93 H f_wt fr_93 nq_93 hw => ?_)
  have n_x_wt := nq_93 _ _ f_x
  have n_d_wt := nq_93 _ _ f_d
  have n_sc_wt := nq_93 _ _ f_sc
  have n_sz_wt := nq_93 _ _ f_sz
  have n_sg_wt := nq_93 _ _ f_sg
  have n_ik_wt := nq_93 _ _ f_ik
  have n_cp_wt := nq_93 _ _ f_cp
  have f_x := fr_93.none f_x
  have f_d := fr_93.none f_d
  have f_sc := fr_93.none f_sc
  have f_sz := fr_93.none f_sz
  have f_sg := fr_93.none f_sg
  have f_ik := fr_93.none f_ik
  have f_cp := fr_93.none f_cp
  have f_x_0 := f_x
  refine q_putF (fs' := [_, _, _, _, _, _, _, _, _, _, _]) (ci := 5) (C := RX5) (T := TX5) (N := 11) (ty0 := tyX5) (ty := .array .int) 6 F rfl hi5 tyX5_ok nmX5 hl29 (by decide) rfl hnm rfl (by decide +kernel) rfl rfl (Nat.le_of_ble_eq_true rfl) hK hw f_x rfl dX5_init_95 (fun h_95 H locs f_x fr_95 hw => ?_)
  have f_d := fr_95.one f_d n_x_d.symm
  have f_sc := fr_95.one f_sc n_x_sc.symm
  have f_sz := fr_95.one f_sz n_x_sz.symm
  have f_sg := fr_95.one f_sg n_x_sg.symm
  have f_ik := fr_95.one f_ik n_x_ik.symm
  have f_cp := fr_95.one f_cp n_x_cp.symm
  have f_wt := fr_95.one f_wt n_x_wt.symm
  refine lv_aload_n hx hb dX5_init_98 rfl (lv_at hl 0 rfl) ?_
  refine lv_iconst (v := 3) hx hb dX5_init_99 (by decide) ?_
  refine q_newI (N' := 3) F (by decide +kernel) hK hw hA (by decide) rfl (by decide) (Nat.le_of_ble_eq_true rfl) (Nat.le_of_ble_eq_true rfl) dX5_init_100 (fun q_100 h_100 H f_wa fr_100 nq_100 hw => ?_)
  have n_x_wa := nq_100 _ _ f_x
  have n_d_wa := nq_100 _ _ f_d
  have n_sc_wa := nq_100 _ _ f_sc
  have n_sz_wa := nq_100 _ _ f_sz
  have n_sg_wa := nq_100 _ _ f_sg
  have n_ik_wa := nq_100 _ _ f_ik
  have n_cp_wa := nq_100 _ _ f_cp
  have n_wt_wa := nq_100 _ _ f_wt
  have f_x := fr_100.none f_x
  have f_d := fr_100.none f_d
  have f_sc := fr_100.none f_sc
  have f_sz := fr_100.none f_sz
  have f_sg := fr_100.none f_sg
  have f_ik := fr_100.none f_ik
  have f_cp := fr_100.none f_cp
  have f_wt := fr_100.none f_wt
  have f_x_0 := f_x
  refine q_putF (fs' := [_, _, _, _, _, _, _, _, _, _, _]) (ci := 5) (C := RX5) (T := TX5) (N := 11) (ty0 := tyX5) (ty := .array .int) 7 F rfl hi5 tyX5_ok nmX5 hl32 (by decide) rfl hnm rfl (by decide +kernel) rfl rfl (Nat.le_of_ble_eq_true rfl) hK hw f_x rfl dX5_init_102 (fun h_102 H locs f_x fr_102 hw => ?_)
  have f_d := fr_102.one f_d n_x_d.symm
  have f_sc := fr_102.one f_sc n_x_sc.symm
  have f_sz := fr_102.one f_sz n_x_sz.symm
  have f_sg := fr_102.one f_sg n_x_sg.symm
  have f_ik := fr_102.one f_ik n_x_ik.symm
  have f_cp := fr_102.one f_cp n_x_cp.symm
  have f_wt := fr_102.one f_wt n_x_wt.symm
  have f_wa := fr_102.one f_wa n_x_wa.symm
  refine lv_aload_n hx hb dX5_init_105 rfl (lv_at hl 0 rfl) ?_
  refine lv_bipush (v := 64) hx hb dX5_init_106 (by decide) ?_
  refine q_newI (N' := 64) F (by decide +kernel) hK hw hA (by decide) rfl (by decide) (Nat.le_of_ble_eq_true rfl) (Nat.le_of_ble_eq_true rfl) dX5_init_108 (fun q_108 h_108 H f_ch fr_108 nq_108 hw => ?_)
  have n_x_ch := nq_108 _ _ f_x
  have n_d_ch := nq_108 _ _ f_d
  have n_sc_ch := nq_108 _ _ f_sc
  have n_sz_ch := nq_108 _ _ f_sz
  have n_sg_ch := nq_108 _ _ f_sg
  have n_ik_ch := nq_108 _ _ f_ik
  have n_cp_ch := nq_108 _ _ f_cp
  have n_wt_ch := nq_108 _ _ f_wt
  have n_wa_ch := nq_108 _ _ f_wa
  have f_x := fr_108.none f_x
  have f_d := fr_108.none f_d
  have f_sc := fr_108.none f_sc
  have f_sz := fr_108.none f_sz
  have f_sg := fr_108.none f_sg
  have f_ik := fr_108.none f_ik
  have f_cp := fr_108.none f_cp
  have f_wt := fr_108.none f_wt
  have f_wa := fr_108.none f_wa
  have f_x_0 := f_x
  refine q_putF (fs' := [_, _, _, _, _, _, _, _, _, _, _]) (ci := 5) (C := RX5) (T := TX5) (N := 11) (ty0 := tyX5) (ty := .array .int) 8 F rfl hi5 tyX5_ok nmX5 hl35 (by decide) rfl hnm rfl (by decide +kernel) rfl rfl (Nat.le_of_ble_eq_true rfl) hK hw f_x rfl dX5_init_110 (fun h_110 H locs f_x fr_110 hw => ?_)
  have f_d := fr_110.one f_d n_x_d.symm
  have f_sc := fr_110.one f_sc n_x_sc.symm
  have f_sz := fr_110.one f_sz n_x_sz.symm
  have f_sg := fr_110.one f_sg n_x_sg.symm
  have f_ik := fr_110.one f_ik n_x_ik.symm
  have f_cp := fr_110.one f_cp n_x_cp.symm
  have f_wt := fr_110.one f_wt n_x_wt.symm
  have f_wa := fr_110.one f_wa n_x_wa.symm
  have f_ch := fr_110.one f_ch n_x_ch.symm
  refine lv_aload_n hx hb dX5_init_113 rfl (lv_at hl 0 rfl) ?_
  refine lv_bipush (v := 8) hx hb dX5_init_114 (by decide) ?_
  refine q_newI (N' := 8) F (by decide +kernel) hK hw hA (by decide) rfl (by decide) (Nat.le_of_ble_eq_true rfl) (Nat.le_of_ble_eq_true rfl) dX5_init_116 (fun q_116 h_116 H f_ct fr_116 nq_116 hw => ?_)
  have n_x_ct := nq_116 _ _ f_x
  have n_d_ct := nq_116 _ _ f_d
  have n_sc_ct := nq_116 _ _ f_sc
  have n_sz_ct := nq_116 _ _ f_sz
  have n_sg_ct := nq_116 _ _ f_sg
  have n_ik_ct := nq_116 _ _ f_ik
  have n_cp_ct := nq_116 _ _ f_cp
  have n_wt_ct := nq_116 _ _ f_wt
  have n_wa_ct := nq_116 _ _ f_wa
  have n_ch_ct := nq_116 _ _ f_ch
  have f_x := fr_116.none f_x
  have f_d := fr_116.none f_d
  have f_sc := fr_116.none f_sc
  have f_sz := fr_116.none f_sz
  have f_sg := fr_116.none f_sg
  have f_ik := fr_116.none f_ik
  have f_cp := fr_116.none f_cp
  have f_wt := fr_116.none f_wt
  have f_wa := fr_116.none f_wa
  have f_ch := fr_116.none f_ch
  have f_x_0 := f_x
  refine q_putF (fs' := [_, _, _, _, _, _, _, _, _, _, _]) (ci := 5) (C := RX5) (T := TX5) (N := 11) (ty0 := tyX5) (ty := .array .int) 9 F rfl hi5 tyX5_ok nmX5 hl38 (by decide) rfl hnm rfl (by decide +kernel) rfl rfl (Nat.le_of_ble_eq_true rfl) hK hw f_x rfl dX5_init_118 (fun h_118 H locs f_x fr_118 hw => ?_)
  have f_d := fr_118.one f_d n_x_d.symm
  have f_sc := fr_118.one f_sc n_x_sc.symm
  have f_sz := fr_118.one f_sz n_x_sz.symm
  have f_sg := fr_118.one f_sg n_x_sg.symm
  have f_ik := fr_118.one f_ik n_x_ik.symm
  have f_cp := fr_118.one f_cp n_x_cp.symm
  have f_wt := fr_118.one f_wt n_x_wt.symm
  have f_wa := fr_118.one f_wa n_x_wa.symm
  have f_ch := fr_118.one f_ch n_x_ch.symm
  have f_ct := fr_118.one f_ct n_x_ct.symm
  obtain ⟨df, f_d, hdf⟩ : ∃ df, pAt h_118 q_7 (aI Y 6 df) ∧ ∀ i, i < 6 → df i = -1 := ⟨_, f_d, fun i hi => by rcases (show i = 0 ∨ i = 1 ∨ i = 2 ∨ i = 3 ∨ i = 4 ∨ i = 5 by omega) with rfl | rfl | rfl | rfl | rfl | rfl <;> rfl⟩
  obtain ⟨kf, f_ik, hkf⟩ : ∃ kf, pAt h_118 q_63 (aI Y 3 kf) ∧ ∀ i, i < 3 → kf i = 100 := ⟨_, f_ik, fun i hi => by rcases (show i = 0 ∨ i = 1 ∨ i = 2 by omega) with rfl | rfl | rfl <;> rfl⟩
  refine ct_vret hx hb hr hlocks hK hw dX5_init_121 (Nat.le_of_ble_eq_true rfl) (Nat.le_of_ble_eq_true rfl) ⟨fun k => if k = 0 then q_7 else if k = 1 then q_39 else if k = 2 then q_47 else if k = 3 then q_56 else if k = 4 then q_63 else if k = 5 then q_85 else if k = 6 then q_93 else if k = 7 then q_100 else if k = 8 then q_108 else q_116, df, kf, hdf, hkf, fun q hq => ?_, ?_⟩
  · have hq : q ∈ [(x, (.inr (5, [.ref q_7, .ref q_39, .ref q_47, .ref q_56, .ref q_63, .ref q_85, .ref q_93, .ref q_100, .ref q_108, .ref q_116, .int 0]) : va_E)), (q_7, aI Y 6 df), (q_39, aI Y 6 (fun _ => 0)), (q_47, aI Y 6 (fun _ => 0)), (q_56, aJ Y 240 (fun _ => 0)), (q_63, aI Y 3 kf), (q_85, aI Y 3 (fun _ => 0)), (q_93, aI Y 120 (fun _ => 0)), (q_100, aI Y 3 (fun _ => 0)), (q_108, aI Y 64 (fun _ => 0)), (q_116, aI Y 8 (fun _ => 0))] := hq
    simp only [List.mem_cons, List.not_mem_nil, or_false] at hq
    rcases hq with rfl | rfl | rfl | rfl | rfl | rfl | rfl | rfl | rfl | rfl | rfl
    · exact f_x
    · exact f_d
    · exact f_sc
    · exact f_sz
    · exact f_sg
    · exact f_ik
    · exact f_cp
    · exact f_wt
    · exact f_wa
    · exact f_ch
    · exact f_ct
  · show List.Pairwise (fun (p q : Nat × va_E) => p.1 ≠ q.1) [(x, (.inr (5, [.ref q_7, .ref q_39, .ref q_47, .ref q_56, .ref q_63, .ref q_85, .ref q_93, .ref q_100, .ref q_108, .ref q_116, .int 0]) : va_E)), (q_7, aI Y 6 df), (q_39, aI Y 6 (fun _ => 0)), (q_47, aI Y 6 (fun _ => 0)), (q_56, aJ Y 240 (fun _ => 0)), (q_63, aI Y 3 kf), (q_85, aI Y 3 (fun _ => 0)), (q_93, aI Y 120 (fun _ => 0)), (q_100, aI Y 3 (fun _ => 0)), (q_108, aI Y 64 (fun _ => 0)), (q_116, aI Y 8 (fun _ => 0))]
    simp only [List.pairwise_cons, List.mem_cons, List.not_mem_nil, or_false, forall_eq_or_imp, forall_eq, List.Pairwise.nil, and_true, false_implies, implies_true]
    exact ⟨⟨n_x_d, n_x_sc, n_x_sz, n_x_sg, n_x_ik, n_x_cp, n_x_wt, n_x_wa, n_x_ch, n_x_ct⟩, ⟨n_d_sc, n_d_sz, n_d_sg, n_d_ik, n_d_cp, n_d_wt, n_d_wa, n_d_ch, n_d_ct⟩, ⟨n_sc_sz, n_sc_sg, n_sc_ik, n_sc_cp, n_sc_wt, n_sc_wa, n_sc_ch, n_sc_ct⟩, ⟨n_sz_sg, n_sz_ik, n_sz_cp, n_sz_wt, n_sz_wa, n_sz_ch, n_sz_ct⟩, ⟨n_sg_ik, n_sg_cp, n_sg_wt, n_sg_wa, n_sg_ch, n_sg_ct⟩, ⟨n_ik_cp, n_ik_wt, n_ik_wa, n_ik_ch, n_ik_ct⟩, ⟨n_cp_wt, n_cp_wa, n_cp_ch, n_cp_ct⟩, ⟨n_wt_wa, n_wt_ch, n_wt_ct⟩, ⟨n_wa_ch, n_wa_ct⟩, n_ch_ct⟩
