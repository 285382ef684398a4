theorem tri {f : Nat → Nat} (h01 : f 0 ≠ f 1) (h02 : f 0 ≠ f 2) (h12 : f 1 ≠ f 2) : ∀ i j, i < 3 → j < 3 → f i = f j → i = j := by
  intro i j hi hj q
  rcases (show i = 0 ∨ i = 1 ∨ i = 2 by omega) with rfl | rfl | rfl <;> rcases (show j = 0 ∨ j = 1 ∨ j = 2 by omega) with rfl | rfl | rfl
  · rfl
  · exact absurd q h01
  · exact absurd q h02
  · exact absurd q.symm h01
  · rfl
  · exact absurd q h12
  · exact absurd q.symm h02
  · exact absurd q.symm h12
  · rfl
/-- the class's state at the start -/
def c0St (ad : Nat → Nat) : CSt → Prop
  | (dk, (_, bS, bN, _, _, _, _), (ink, cop, wai, _), (nx, he, C), tl) => (∀ i, i < 6 → dk i = ad 1) ∧ bS (ad 1) = -1 ∧ bN (ad 1) = 0 ∧ bS (ad 2) = -2 ∧ bN (ad 2) = 0 ∧ (∀ i, i < 3 → ink i = 100 ∧ cop i = 0 ∧ wai i = 0) ∧ nx = 0 ∧ he = 0 ∧ (∀ k j, C k j = 0) ∧ (∀ k, tl k = 0)
set_option maxHeartbeats 4000000 in
set_option maxRecDepth 100000 in
theorem c_X4_init (l : Launch) (G : va_G) (Y : Nat → ClassId) (h : PH) (x : Nat) (f_x : pAt h x (.inr (4, [.null, .null, .null, .null, .null, .null]))) : ctV l G Y pw yX4_init wsX4_init ({ frames := 2, cells := 20, slots := 400, locals := 60 }) [.ref x] h (fun h' => ∃ (ad : Nat → Nat) (cs : CSt), ad 0 = x ∧ CRep Y h' ad cs ∧ c0St ad cs) := by
  refine ctV.of (cc := cX4_init) (maxL := 2) (ret := none) (by decide +kernel) rfl (Nat.le_of_ble_eq_true rfl) ?_
  intro A p e s m below meth c ls hB
  obtain ⟨F, hr, hlocks, hnm, hK, hA, hw, hl⟩ := hB
  obtain ⟨hx, hb, hml, hown, hts⟩ := id F
  have hl : lv_has ls 2 [(0, .ref x)] := hl
  have hi0 : ∀ w ∈ wsX00, w ∈ wsX4_init := by decide +kernel
  have hi1 : ∀ w ∈ wsX10, w ∈ wsX4_init := by decide +kernel
  have hi3 : ∀ w ∈ wsX30, w ∈ wsX4_init := by decide +kernel
  have hi4 : ∀ w ∈ wsX40, w ∈ wsX4_init := by decide +kernel
  have hl14 : Cond.fieldLink RX4 14 "Scriptorium" "nothing" "LScriptorium$Book;" ∈ wsX4_init := by decide +kernel
  have hl18 : Cond.fieldLink RX4 18 "Scriptorium" "rock" "LScriptorium$Book;" ∈ wsX4_init := by decide +kernel
  have hl21 : Cond.fieldLink RX4 21 "Scriptorium" "desks" "[LScriptorium$Book;" ∈ wsX4_init := by decide +kernel
  have hl27 : Cond.fieldLink RX4 27 "Scriptorium" "scribes" "[LScriptorium$Scribe;" ∈ wsX4_init := by decide +kernel
  have hl35 : Cond.fieldLink RX4 35 "Scriptorium" "latest" "LScriptorium$Chronicle;" ∈ wsX4_init := by decide +kernel
  have hl39 : Cond.fieldLink RX4 39 "Scriptorium" "tallies" "[I" ∈ wsX4_init := by decide +kernel
  refine lv_aload_n hx hb dX4_init_0 rfl (lv_at hl 0 rfl) ?_
  refine W.objInit hx hb hown (hts (.methodLink RX4 1 objectInit) (by decide +kernel)) (hts (.instanceMethod objectInit) (by decide +kernel)) (hts (.code objectInit ⟨#[0xb1]⟩ 1 none) (by decide +kernel)) rfl (by rw [hml]; exact hl.1) rfl dX4_init_1 (Nat.le_of_ble_eq_true rfl) (Nat.le_of_ble_eq_true rfl) ?_
  refine W.eq (g2 := F0 m 4 ls []) rfl ?_
  refine lv_aload_n hx hb dX4_init_4 rfl (lv_at hl 0 rfl) ?_
  refine q_new (fs := [.int 0, .null, .null]) (ci := 0) (C := RX0) (T := TX0) (N := 3) (ty0 := tyX0) F rfl hi0 tyX0_ok (by decide +kernel) (by decide +kernel) (by decide +kernel) hK hw hA (fun j hj => by rcases (show j = 0 ∨ j = 1 ∨ j = 2 by omega) with rfl | rfl | rfl <;> rfl) (Nat.le_of_ble_eq_true rfl) (Nat.le_of_ble_eq_true rfl) dX4_init_5 (fun qn h_5 H f_n0 fr_5 nq_5 hw => ?_)
  have n_x_n0 := nq_5 _ _ f_x
  have f_x := fr_5.none f_x
  refine lv_dup hx hb dX4_init_8 rfl ?_
  refine lv_iconst (v := -1) hx hb dX4_init_9 (by decide) ?_
  refine lv_iconst (v := 0) hx hb dX4_init_10 (by decide) ?_
  refine (c_X0_init l G Y _ _ _ 0 f_n0 (by decide)).callI F (cwI 2 hts gX4_init_X0_init rfl rfl rfl (hts (.initialized RX0) (by decide +kernel)) (hts (.methodLink RX4 11 yX0_init) (by decide +kernel)) (hts (.instanceMethod yX0_init) (by decide +kernel)) rfl (by decide +kernel) ⟨Nat.le_of_ble_eq_true rfl, Nat.le_of_ble_eq_true rfl⟩) hK hw hA rfl rfl hl.1 (Nat.le_of_ble_eq_true rfl) dX4_init_11 ⟨Nat.le_of_ble_eq_true rfl, Nat.le_of_ble_eq_true rfl⟩ (fun h_11 H locs hp_11 hw => ?_)
  obtain ⟨v_n0, so_n0, g1, g2, g3, fi_11, hf_11⟩ := hp_11
  have m_x_n0v := (hf_11 _ _ f_x).1
  have m_x_n0s := (hf_11 _ _ f_x).2
  have m_n0_n0v := (hf_11 _ _ f_n0).1
  have m_n0_n0s := (hf_11 _ _ f_n0).2
  have f_x := fi_11.one f_x n_x_n0
  have f_n0 := g1
  have f_n0v := g2
  have f_n0s := g3
  have f_x_0 := f_x
  refine q_putF (fs' := [_, _, _, _, _, _]) (ci := 4) (C := RX4) (T := TX4) (N := 6) (ty0 := tyX4) (ty := .object "Scriptorium$Book") 0 F rfl hi4 tyX4_ok nmX4 hl14 (by decide) rfl hnm rfl (by decide +kernel) rfl rfl (Nat.le_of_ble_eq_true rfl) hK hw f_x rfl dX4_init_14 (fun h_14 H locs f_x fr_14 hw => ?_)
  have f_n0 := fr_14.one f_n0 n_x_n0.symm
  have f_n0v := fr_14.one f_n0v m_x_n0v.symm
  have f_n0s := fr_14.one f_n0s m_x_n0s.symm
  refine lv_aload_n hx hb dX4_init_17 rfl (lv_at hl 0 rfl) ?_
  refine q_new (fs := [.int 0, .null, .null]) (ci := 0) (C := RX0) (T := TX0) (N := 3) (ty0 := tyX0) F rfl hi0 tyX0_ok (by decide +kernel) (by decide +kernel) (by decide +kernel) hK hw hA (fun j hj => by rcases (show j = 0 ∨ j = 1 ∨ j = 2 by omega) with rfl | rfl | rfl <;> rfl) (Nat.le_of_ble_eq_true rfl) (Nat.le_of_ble_eq_true rfl) dX4_init_18 (fun qr h_18 H f_r0 fr_18 nq_18 hw => ?_)
  have n_x_r0 := nq_18 _ _ f_x
  have n_n0_r0 := nq_18 _ _ f_n0
  have n_n0v_r0 := nq_18 _ _ f_n0v
  have n_n0s_r0 := nq_18 _ _ f_n0s
  have f_x := fr_18.none f_x
  have f_n0 := fr_18.none f_n0
  have f_n0v := fr_18.none f_n0v
  have f_n0s := fr_18.none f_n0s
  refine lv_dup hx hb dX4_init_21 rfl ?_
  refine lv_bipush (v := -2) hx hb dX4_init_22 (by decide) ?_
  refine lv_iconst (v := 0) hx hb dX4_init_24 (by decide) ?_
  refine (c_X0_init l G Y _ _ _ 0 f_r0 (by decide)).callI F (cwI 2 hts gX4_init_X0_init rfl rfl rfl (hts (.initialized RX0) (by decide +kernel)) (hts (.methodLink RX4 11 yX0_init) (by decide +kernel)) (hts (.instanceMethod yX0_init) (by decide +kernel)) rfl (by decide +kernel) ⟨Nat.le_of_ble_eq_true rfl, Nat.le_of_ble_eq_true rfl⟩) hK hw hA rfl rfl hl.1 (Nat.le_of_ble_eq_true rfl) dX4_init_25 ⟨Nat.le_of_ble_eq_true rfl, Nat.le_of_ble_eq_true rfl⟩ (fun h_25 H locs hp_25 hw => ?_)
  obtain ⟨v_r0, so_r0, g1, g2, g3, fi_25, hf_25⟩ := hp_25
  have m_x_r0v := (hf_25 _ _ f_x).1
  have m_x_r0s := (hf_25 _ _ f_x).2
  have m_n0_r0v := (hf_25 _ _ f_n0).1
  have m_n0_r0s := (hf_25 _ _ f_n0).2
  have m_n0v_r0v := (hf_25 _ _ f_n0v).1
  have m_n0v_r0s := (hf_25 _ _ f_n0v).2
  have m_n0s_r0v := (hf_25 _ _ f_n0s).1
  have m_n0s_r0s := (hf_25 _ _ f_n0s).2
  have m_r0_r0v := (hf_25 _ _ f_r0).1
  have m_r0_r0s := (hf_25 _ _ f_r0).2
  have f_x := fi_25.one f_x n_x_r0
  have f_n0 := fi_25.one f_n0 n_n0_r0
  have f_n0v := fi_25.one f_n0v n_n0v_r0
  have f_n0s := fi_25.one f_n0s n_n0s_r0
  have f_r0 := g1
  have f_r0v := g2
  have f_r0s := g3
  have f_x_0 := f_x
  refine q_putF (fs' := [_, _, _, _, _, _]) (ci := 4) (C := RX4) (T := TX4) (N := 6) (ty0 := tyX4) (ty := .object "Scriptorium$Book") 1 F rfl hi4 tyX4_ok nmX4 hl18 (by decide) rfl hnm rfl (by decide +kernel) rfl rfl (Nat.le_of_ble_eq_true rfl) hK hw f_x rfl dX4_init_28 (fun h_28 H locs f_x fr_28 hw => ?_)
  have f_n0 := fr_28.one f_n0 n_x_n0.symm
  have f_n0v := fr_28.one f_n0v m_x_n0v.symm
  have f_n0s := fr_28.one f_n0s m_x_n0s.symm
  have f_r0 := fr_28.one f_r0 n_x_r0.symm
  have f_r0v := fr_28.one f_r0v m_x_r0v.symm
  have f_r0s := fr_28.one f_r0s m_x_r0s.symm
  refine lv_aload_n hx hb dX4_init_31 rfl (lv_at hl 0 rfl) ?_
  refine lv_bipush (v := 6) hx hb dX4_init_32 (by decide) ?_
  refine q_newA (C := RX0) (N' := 6) 2 F rfl (by decide +kernel) hK.2.1 hK hw hA (by decide) rfl (by decide) (Nat.le_of_ble_eq_true rfl) (Nat.le_of_ble_eq_true rfl) dX4_init_34 (fun q_34 h_34 H f_d fr_34 nq_34 hw => ?_)
  have n_x_d := nq_34 _ _ f_x
  have n_n0_d := nq_34 _ _ f_n0
  have n_n0v_d := nq_34 _ _ f_n0v
  have n_n0s_d := nq_34 _ _ f_n0s
  have n_r0_d := nq_34 _ _ f_r0
  have n_r0v_d := nq_34 _ _ f_r0v
  have n_r0s_d := nq_34 _ _ f_r0s
  have f_x := fr_34.none f_x
  have f_n0 := fr_34.none f_n0
  have f_n0v := fr_34.none f_n0v
  have f_n0s := fr_34.none f_n0s
  have f_r0 := fr_34.none f_r0
  have f_r0v := fr_34.none f_r0v
  have f_r0s := fr_34.none f_r0s
  have f_x_0 := f_x
  refine q_putF (fs' := [_, _, _, _, _, _]) (ci := 4) (C := RX4) (T := TX4) (N := 6) (ty0 := tyX4) (ty := .array (.object "Scriptorium$Book")) 2 F rfl hi4 tyX4_ok nmX4 hl21 (by decide) rfl hnm rfl (by decide +kernel) rfl rfl (Nat.le_of_ble_eq_true rfl) hK hw f_x rfl dX4_init_37 (fun h_37 H locs f_x fr_37 hw => ?_)
  have f_n0 := fr_37.one f_n0 n_x_n0.symm
  have f_n0v := fr_37.one f_n0v m_x_n0v.symm
  have f_n0s := fr_37.one f_n0s m_x_n0s.symm
  have f_r0 := fr_37.one f_r0 n_x_r0.symm
  have f_r0v := fr_37.one f_r0v m_x_r0v.symm
  have f_r0s := fr_37.one f_r0s m_x_r0s.symm
  have f_d := fr_37.one f_d n_x_d.symm
  refine lv_iconst (v := 0) hx hb dX4_init_40 (by decide) ?_
  refine lv_istore_n (lv' := [(1, .int _), (0, .ref _)]) hx hb dX4_init_41 rfl hl (by decide) rfl (fun ls hl => ?_)
  refine lv_iload_n hx hb dX4_init_42 rfl (lv_at hl 0 rfl) ?_
  refine lv_bipush (v := 6) hx hb dX4_init_43 (by decide) ?_
  refine lv_icmp_ge (tgt := 64) hx hb dX4_init_45 (by decide) (fun c_45 => ?_) (fun c_45 => ?_)
  · exact absurd c_45 (by decide)
  · skip
    refine lv_aload_n hx hb dX4_init_48 rfl (lv_at hl 1 rfl) ?_
    refine p_get (ci := 4) (C := RX4) (T := TX4) (N := 6) 2 F rfl hi4 hl21 (by decide) hK hw f_x rfl dX4_init_49 ?_
    refine lv_iload_n hx hb dX4_init_52 rfl (lv_at hl 0 rfl) ?_
    refine lv_aload_n hx hb dX4_init_53 rfl (lv_at hl 1 rfl) ?_
    refine p_get (ci := 4) (C := RX4) (T := TX4) (N := 6) 0 F rfl hi4 hl14 (by decide) hK hw f_x rfl dX4_init_54 ?_
    have f_d_0 := f_d
    refine q_stB F hK hw f_d f_n0 (by unfold vp_in; decide) dX4_init_57 (fun h_57 H locs f_d fr_57 hw => ?_)
    have f_x := fr_57.one f_x n_x_d
    have f_n0 := fr_57.one f_n0 n_n0_d
    have f_n0v := fr_57.one f_n0v n_n0v_d
    have f_n0s := fr_57.one f_n0s n_n0s_d
    have f_r0 := fr_57.one f_r0 n_r0_d
    have f_r0v := fr_57.one f_r0v n_r0v_d
    have f_r0s := fr_57.one f_r0s n_r0s_d
    refine lv_iinc (lv' := [(1, .int _), (0, .ref _)]) hx hb dX4_init_58 hl (k := 0) rfl rfl (by decide) rfl (fun ls hl => ?_)
    refine lv_goto (tgt := 42) hx hb dX4_init_61 (by decide) ?_
    refine lv_iload_n hx hb dX4_init_42 rfl (lv_at hl 0 rfl) ?_
    refine lv_bipush (v := 6) hx hb dX4_init_43 (by decide) ?_
    refine lv_icmp_ge (tgt := 64) hx hb dX4_init_45 (by decide) (fun c_45 => ?_) (fun c_45 => ?_)
    · exact absurd c_45 (by decide)
    · skip
      refine lv_aload_n hx hb dX4_init_48 rfl (lv_at hl 1 rfl) ?_
      refine p_get (ci := 4) (C := RX4) (T := TX4) (N := 6) 2 F rfl hi4 hl21 (by decide) hK hw f_x rfl dX4_init_49 ?_
      refine lv_iload_n hx hb dX4_init_52 rfl (lv_at hl 0 rfl) ?_
      refine lv_aload_n hx hb dX4_init_53 rfl (lv_at hl 1 rfl) ?_
      refine p_get (ci := 4) (C := RX4) (T := TX4) (N := 6) 0 F rfl hi4 hl14 (by decide) hK hw f_x rfl dX4_init_54 ?_
      have f_d_0 := f_d
      refine q_stB F hK hw f_d f_n0 (by unfold vp_in; decide) dX4_init_57 (fun h_57 H locs f_d fr_57 hw => ?_)
      have f_x := fr_57.one f_x n_x_d
      have f_n0 := fr_57.one f_n0 n_n0_d
      have f_n0v := fr_57.one f_n0v n_n0v_d
      have f_n0s := fr_57.one f_n0s n_n0s_d
      have f_r0 := fr_57.one f_r0 n_r0_d
      have f_r0v := fr_57.one f_r0v n_r0v_d
      have f_r0s := fr_57.one f_r0s n_r0s_d
      refine lv_iinc (lv' := [(1, .int _), (0, .ref _)]) hx hb dX4_init_58 hl (k := 0) rfl rfl (by decide) rfl (fun ls hl => ?_)
      refine lv_goto (tgt := 42) hx hb dX4_init_61 (by decide) ?_
      refine lv_iload_n hx hb dX4_init_42 rfl (lv_at hl 0 rfl) ?_
      refine lv_bipush (v := 6) hx hb dX4_init_43 (by decide) ?_
      refine lv_icmp_ge (tgt := 64) hx hb dX4_init_45 (by decide) (fun c_45 => ?_) (fun c_45 => ?_)
      · exact absurd c_45 (by decide)
      · skip
        refine lv_aload_n hx hb dX4_init_48 rfl (lv_at hl 1 rfl) ?_
        refine p_get (ci := 4) (C := RX4) (T := TX4) (N := 6) 2 F rfl hi4 hl21 (by decide) hK hw f_x rfl dX4_init_49 ?_
        refine lv_iload_n hx hb dX4_init_52 rfl (lv_at hl 0 rfl) ?_
        refine lv_aload_n hx hb dX4_init_53 rfl (lv_at hl 1 rfl) ?_
        refine p_get (ci := 4) (C := RX4) (T := TX4) (N := 6) 0 F rfl hi4 hl14 (by decide) hK hw f_x rfl dX4_init_54 ?_
        have f_d_0 := f_d
        refine q_stB F hK hw f_d f_n0 (by unfold vp_in; decide) dX4_init_57 (fun h_57 H locs f_d fr_57 hw => ?_)
        have f_x := fr_57.one f_x n_x_d
        have f_n0 := fr_57.one f_n0 n_n0_d
        have f_n0v := fr_57.one f_n0v n_n0v_d
        have f_n0s := fr_57.one f_n0s n_n0s_d
        have f_r0 := fr_57.one f_r0 n_r0_d
        have f_r0v := fr_57.one f_r0v n_r0v_d
        have f_r0s := fr_57.one f_r0s n_r0s_d
        refine lv_iinc (lv' := [(1, .int _), (0, .ref _)]) hx hb dX4_init_58 hl (k := 0) rfl rfl (by decide) rfl (fun ls hl => ?_)
        refine lv_goto (tgt := 42) hx hb dX4_init_61 (by decide) ?_
        refine lv_iload_n hx hb dX4_init_42 rfl (lv_at hl 0 rfl) ?_
        refine lv_bipush (v := 6) hx hb dX4_init_43 (by decide) ?_
        refine lv_icmp_ge (tgt := 64) hx hb dX4_init_45 (by decide) (fun c_45 => ?_) (fun c_45 => ?_)
        · exact absurd c_45 (by decide)
        · skip
          refine lv_aload_n hx hb dX4_init_48 rfl (lv_at hl 1 rfl) ?_
          refine p_get (ci := 4) (C := RX4) (T := TX4) (N := 6) 2 F rfl hi4 hl21 (by decide) hK hw f_x rfl dX4_init_49 ?_
          refine lv_iload_n hx hb dX4_init_52 rfl (lv_at hl 0 rfl) ?_
          refine lv_aload_n hx hb dX4_init_53 rfl (lv_at hl 1 rfl) ?_
          refine p_get (ci := 4) (C := RX4) (T := TX4) (N := 6) 0 F rfl hi4 hl14 (by decide) hK hw f_x rfl dX4_init_54 ?_
          have f_d_0 := f_d
          refine q_stB F hK hw f_d f_n0 (by unfold vp_in; decide) dX4_init_57 (fun h_57 H locs f_d fr_57 hw => ?_)
          have f_x := fr_57.one f_x n_x_d
          have f_n0 := fr_57.one f_n0 n_n0_d
          have f_n0v := fr_57.one f_n0v n_n0v_d
          have f_n0s := fr_57.one f_n0s n_n0s_d
          have f_r0 := fr_57.one f_r0 n_r0_d
          have f_r0v := fr_57.one f_r0v n_r0v_d
          have f_r0s := fr_57.one f_r0s n_r0s_d
          refine lv_iinc (lv' := [(1, .int _), (0, .ref _)]) hx hb dX4_init_58 hl (k := 0) rfl rfl (by decide) rfl (fun ls hl => ?_)
          refine lv_goto (tgt := 42) hx hb dX4_init_61 (by decide) ?_
          refine lv_iload_n hx hb dX4_init_42 rfl (lv_at hl 0 rfl) ?_
          refine lv_bipush (v := 6) hx hb dX4_init_43 (by decide) ?_
          refine lv_icmp_ge (tgt := 64) hx hb dX4_init_45 (by decide) (fun c_45 => ?_) (fun c_45 => ?_)
          · exact absurd c_45 (by decide)
          · skip
            refine lv_aload_n hx hb dX4_init_48 rfl (lv_at hl 1 rfl) ?_
            refine p_get (ci := 4) (C := RX4) (T := TX4) (N := 6) 2 F rfl hi4 hl21 (by decide) hK hw f_x rfl dX4_init_49 ?_
            refine lv_iload_n hx hb dX4_init_52 rfl (lv_at hl 0 rfl) ?_
            refine lv_aload_n hx hb dX4_init_53 rfl (lv_at hl 1 rfl) ?_
            refine p_get (ci := 4) (C := RX4) (T := TX4) (N := 6) 0 F rfl hi4 hl14 (by decide) hK hw f_x rfl dX4_init_54 ?_
            have f_d_0 := f_d
            refine q_stB F hK hw f_d f_n0 (by unfold vp_in; decide) dX4_init_57 (fun h_57 H locs f_d fr_57 hw => ?_)
            have f_x := fr_57.one f_x n_x_d
            have f_n0 := fr_57.one f_n0 n_n0_d
            have f_n0v := fr_57.one f_n0v n_n0v_d
            have f_n0s := fr_57.one f_n0s n_n0s_d
            have f_r0 := fr_57.one f_r0 n_r0_d
            have f_r0v := fr_57.one f_r0v n_r0v_d
            have f_r0s := fr_57.one f_r0s n_r0s_d
            refine lv_iinc (lv' := [(1, .int _), (0, .ref _)]) hx hb dX4_init_58 hl (k := 0) rfl rfl (by decide) rfl (fun ls hl => ?_)
            refine lv_goto (tgt := 42) hx hb dX4_init_61 (by decide) ?_
            refine lv_iload_n hx hb dX4_init_42 rfl (lv_at hl 0 rfl) ?_
            refine lv_bipush (v := 6) hx hb dX4_init_43 (by decide) ?_
            refine lv_icmp_ge (tgt := 64) hx hb dX4_init_45 (by decide) (fun c_45 => ?_) (fun c_45 => ?_)
            · exact absurd c_45 (by decide)
            · skip
              refine lv_aload_n hx hb dX4_init_48 rfl (lv_at hl 1 rfl) ?_
              refine p_get (ci := 4) (C := RX4) (T := TX4) (N := 6) 2 F rfl hi4 hl21 (by decide) hK hw f_x rfl dX4_init_49 ?_
              refine lv_iload_n hx hb dX4_init_52 rfl (lv_at hl 0 rfl) ?_
              refine lv_aload_n hx hb dX4_init_53 rfl (lv_at hl 1 rfl) ?_
              refine p_get (ci := 4) (C := RX4) (T := TX4) (N := 6) 0 F rfl hi4 hl14 (by decide) hK hw f_x rfl dX4_init_54 ?_
              have f_d_0 := f_d
              refine q_stB F hK hw f_d f_n0 (by unfold vp_in; decide) dX4_init_57 (fun h_57 H locs f_d fr_57 hw => ?_)
              have f_x := fr_57.one f_x n_x_d
              have f_n0 := fr_57.one f_n0 n_n0_d
              have f_n0v := fr_57.one f_n0v n_n0v_d
              have f_n0s := fr_57.one f_n0s n_n0s_d
              have f_r0 := fr_57.one f_r0 n_r0_d
              have f_r0v := fr_57.one f_r0v n_r0v_d
              have f_r0s := fr_57.one f_r0s n_r0s_d
              refine lv_iinc (lv' := [(1, .int _), (0, .ref _)]) hx hb dX4_init_58 hl (k := 0) rfl rfl (by decide) rfl (fun ls hl => ?_)
              refine lv_goto (tgt := 42) hx hb dX4_init_61 (by decide) ?_
              refine lv_iload_n hx hb dX4_init_42 rfl (lv_at hl 0 rfl) ?_
              refine lv_bipush (v := 6) hx hb dX4_init_43 (by decide) ?_
              refine lv_icmp_ge (tgt := 64) hx hb dX4_init_45 (by decide) (fun c_45 => ?_) (fun c_45 => ?_)
              · skip
                refine lv_aload_n hx hb dX4_init_64 rfl (lv_at hl 1 rfl) ?_
                refine lv_iconst (v := 3) hx hb dX4_init_65 (by decide) ?_
                refine q_newA (C := RX3) (N' := 3) 4 F rfl (by decide +kernel) hK.2.2.2 hK hw hA (by decide) rfl (by decide) (Nat.le_of_ble_eq_true rfl) (Nat.le_of_ble_eq_true rfl) dX4_init_66 (fun q_66 h_66 H f_ss fr_66 nq_66 hw => ?_)
                have n_x_ss := nq_66 _ _ f_x
                have n_n0_ss := nq_66 _ _ f_n0
                have n_n0v_ss := nq_66 _ _ f_n0v
                have n_n0s_ss := nq_66 _ _ f_n0s
                have n_r0_ss := nq_66 _ _ f_r0
                have n_r0v_ss := nq_66 _ _ f_r0v
                have n_r0s_ss := nq_66 _ _ f_r0s
                have n_d_ss := nq_66 _ _ f_d
                have f_x := fr_66.none f_x
                have f_n0 := fr_66.none f_n0
                have f_n0v := fr_66.none f_n0v
                have f_n0s := fr_66.none f_n0s
                have f_r0 := fr_66.none f_r0
                have f_r0v := fr_66.none f_r0v
                have f_r0s := fr_66.none f_r0s
                have f_d := fr_66.none f_d
                have f_x_0 := f_x
                refine q_putF (fs' := [_, _, _, _, _, _]) (ci := 4) (C := RX4) (T := TX4) (N := 6) (ty0 := tyX4) (ty := .array (.object "Scriptorium$Scribe")) 3 F rfl hi4 tyX4_ok nmX4 hl27 (by decide) rfl hnm rfl (by decide +kernel) rfl rfl (Nat.le_of_ble_eq_true rfl) hK hw f_x rfl dX4_init_69 (fun h_69 H locs f_x fr_69 hw => ?_)
                have f_n0 := fr_69.one f_n0 n_x_n0.symm
                have f_n0v := fr_69.one f_n0v m_x_n0v.symm
                have f_n0s := fr_69.one f_n0s m_x_n0s.symm
                have f_r0 := fr_69.one f_r0 n_x_r0.symm
                have f_r0v := fr_69.one f_r0v m_x_r0v.symm
                have f_r0s := fr_69.one f_r0s m_x_r0s.symm
                have f_d := fr_69.one f_d n_x_d.symm
                have f_ss := fr_69.one f_ss n_x_ss.symm
                refine lv_iconst (v := 0) hx hb dX4_init_72 (by decide) ?_
                refine lv_istore_n (lv' := [(1, .int _), (0, .ref _)]) hx hb dX4_init_73 rfl hl (by decide) rfl (fun ls hl => ?_)
                refine lv_iload_n hx hb dX4_init_74 rfl (lv_at hl 0 rfl) ?_
                refine lv_iconst (v := 3) hx hb dX4_init_75 (by decide) ?_
                refine lv_icmp_ge (tgt := 98) hx hb dX4_init_76 (by decide) (fun c_76 => ?_) (fun c_76 => ?_)
                · exact absurd c_76 (by decide)
                · skip
                  refine lv_aload_n hx hb dX4_init_79 rfl (lv_at hl 1 rfl) ?_
                  refine p_get (ci := 4) (C := RX4) (T := TX4) (N := 6) 3 F rfl hi4 hl27 (by decide) hK hw f_x rfl dX4_init_80 ?_
                  refine lv_iload_n hx hb dX4_init_83 rfl (lv_at hl 0 rfl) ?_
                  refine q_new (fs := [.int 0, .int 0, .int 0, .null]) (ci := 3) (C := RX3) (T := TX3) (N := 4) (ty0 := tyX3) F rfl hi3 tyX3_ok (by decide +kernel) (by decide +kernel) (by decide +kernel) hK hw hA (fun j hj => by rcases (show j = 0 ∨ j = 1 ∨ j = 2 ∨ j = 3 by omega) with rfl | rfl | rfl | rfl <;> rfl) (Nat.le_of_ble_eq_true rfl) (Nat.le_of_ble_eq_true rfl) dX4_init_84 (fun qs0 h_84 H f_s0 fr_84 nq_84 hw => ?_)
                  have n_x_s0 := nq_84 _ _ f_x
                  have n_n0_s0 := nq_84 _ _ f_n0
                  have n_n0v_s0 := nq_84 _ _ f_n0v
                  have n_n0s_s0 := nq_84 _ _ f_n0s
                  have n_r0_s0 := nq_84 _ _ f_r0
                  have n_r0v_s0 := nq_84 _ _ f_r0v
                  have n_r0s_s0 := nq_84 _ _ f_r0s
                  have n_d_s0 := nq_84 _ _ f_d
                  have n_ss_s0 := nq_84 _ _ f_ss
                  have f_x := fr_84.none f_x
                  have f_n0 := fr_84.none f_n0
                  have f_n0v := fr_84.none f_n0v
                  have f_n0s := fr_84.none f_n0s
                  have f_r0 := fr_84.none f_r0
                  have f_r0v := fr_84.none f_r0v
                  have f_r0s := fr_84.none f_r0s
                  have f_d := fr_84.none f_d
                  have f_ss := fr_84.none f_ss
                  refine lv_dup hx hb dX4_init_87 rfl ?_
                  refine (c_X3_init l G Y _ _ f_s0).callI F (cwI 0 hts gX4_init_X3_init rfl rfl rfl (hts (.initialized RX3) (by decide +kernel)) (hts (.methodLink RX4 31 yX3_init) (by decide +kernel)) (hts (.instanceMethod yX3_init) (by decide +kernel)) rfl (by decide +kernel) ⟨Nat.le_of_ble_eq_true rfl, Nat.le_of_ble_eq_true rfl⟩) hK hw hA rfl rfl hl.1 (Nat.le_of_ble_eq_true rfl) dX4_init_88 ⟨Nat.le_of_ble_eq_true rfl, Nat.le_of_ble_eq_true rfl⟩ (fun h_88 H locs hp_88 hw => ?_)
                  obtain ⟨od0, g1, g2, fi_88, hf_88⟩ := hp_88
                  have m_x_o0 := hf_88 _ _ f_x
                  have m_n0_o0 := hf_88 _ _ f_n0
                  have m_n0v_o0 := hf_88 _ _ f_n0v
                  have m_n0s_o0 := hf_88 _ _ f_n0s
                  have m_r0_o0 := hf_88 _ _ f_r0
                  have m_r0v_o0 := hf_88 _ _ f_r0v
                  have m_r0s_o0 := hf_88 _ _ f_r0s
                  have m_d_o0 := hf_88 _ _ f_d
                  have m_ss_o0 := hf_88 _ _ f_ss
                  have m_s0_o0 := hf_88 _ _ f_s0
                  have f_x := fi_88.one f_x n_x_s0
                  have f_n0 := fi_88.one f_n0 n_n0_s0
                  have f_n0v := fi_88.one f_n0v n_n0v_s0
                  have f_n0s := fi_88.one f_n0s n_n0s_s0
                  have f_r0 := fi_88.one f_r0 n_r0_s0
                  have f_r0v := fi_88.one f_r0v n_r0v_s0
                  have f_r0s := fi_88.one f_r0s n_r0s_s0
                  have f_d := fi_88.one f_d n_d_s0
                  have f_ss := fi_88.one f_ss n_ss_s0
                  have f_s0 := g1
                  have f_o0 := g2
                  have f_ss_0 := f_ss
                  refine q_stS F hK hw f_ss f_s0 (by unfold vp_in; decide) dX4_init_91 (fun h_91 H locs f_ss fr_91 hw => ?_)
                  have f_x := fr_91.one f_x n_x_ss
                  have f_n0 := fr_91.one f_n0 n_n0_ss
                  have f_n0v := fr_91.one f_n0v n_n0v_ss
                  have f_n0s := fr_91.one f_n0s n_n0s_ss
                  have f_r0 := fr_91.one f_r0 n_r0_ss
                  have f_r0v := fr_91.one f_r0v n_r0v_ss
                  have f_r0s := fr_91.one f_r0s n_r0s_ss
                  have f_d := fr_91.one f_d n_d_ss
                  have f_s0 := fr_91.one f_s0 n_ss_s0.symm
                  have f_o0 := fr_91.one f_o0 m_ss_o0.symm
                  refine lv_iinc (lv' := [(1, .int _), (0, .ref _)]) hx hb dX4_init_92 hl (k := 0) rfl rfl (by decide) rfl (fun ls hl => ?_)
                  refine lv_goto (tgt := 74) hx hb dX4_init_95 (by decide) ?_
                  refine lv_iload_n hx hb dX4_init_74 rfl (lv_at hl 0 rfl) ?_
                  refine lv_iconst (v := 3) hx hb dX4_init_75 (by decide) ?_
                  refine lv_icmp_ge (tgt := 98) hx hb dX4_init_76 (by decide) (fun c_76 => ?_) (fun c_76 => ?_)
                  · exact absurd c_76 (by decide)
                  · skip
                    refine lv_aload_n hx hb dX4_init_79 rfl (lv_at hl 1 rfl) ?_
                    refine p_get (ci := 4) (C := RX4) (T := TX4) (N := 6) 3 F rfl hi4 hl27 (by decide) hK hw f_x rfl dX4_init_80 ?_
                    refine lv_iload_n hx hb dX4_init_83 rfl (lv_at hl 0 rfl) ?_
                    refine q_new (fs := [.int 0, .int 0, .int 0, .null]) (ci := 3) (C := RX3) (T := TX3) (N := 4) (ty0 := tyX3) F rfl hi3 tyX3_ok (by decide +kernel) (by decide +kernel) (by decide +kernel) hK hw hA (fun j hj => by rcases (show j = 0 ∨ j = 1 ∨ j = 2 ∨ j = 3 by omega) with rfl | rfl | rfl | rfl <;> rfl) (Nat.le_of_ble_eq_true rfl) (Nat.le_of_ble_eq_true rfl) dX4_init_84 (fun qs1 h_84 H f_s1 fr_84 nq_84 hw => ?_)
                    have n_x_s1 := nq_84 _ _ f_x
                    have n_n0_s1 := nq_84 _ _ f_n0
                    have n_n0v_s1 := nq_84 _ _ f_n0v
                    have n_n0s_s1 := nq_84 _ _ f_n0s
                    have n_r0_s1 := nq_84 _ _ f_r0
                    have n_r0v_s1 := nq_84 _ _ f_r0v
                    have n_r0s_s1 := nq_84 _ _ f_r0s
                    have n_d_s1 := nq_84 _ _ f_d
                    have n_ss_s1 := nq_84 _ _ f_ss
                    have n_s0_s1 := nq_84 _ _ f_s0
                    have n_o0_s1 := nq_84 _ _ f_o0
                    have f_x := fr_84.none f_x
                    have f_n0 := fr_84.none f_n0
                    have f_n0v := fr_84.none f_n0v
                    have f_n0s := fr_84.none f_n0s
                    have f_r0 := fr_84.none f_r0
                    have f_r0v := fr_84.none f_r0v
                    have f_r0s := fr_84.none f_r0s
                    have f_d := fr_84.none f_d
                    have f_ss := fr_84.none f_ss
                    have f_s0 := fr_84.none f_s0
                    have f_o0 := fr_84.none f_o0
                    refine lv_dup hx hb dX4_init_87 rfl ?_
                    refine (c_X3_init l G Y _ _ f_s1).callI F (cwI 0 hts gX4_init_X3_init rfl rfl rfl (hts (.initialized RX3) (by decide +kernel)) (hts (.methodLink RX4 31 yX3_init) (by decide +kernel)) (hts (.instanceMethod yX3_init) (by decide +kernel)) rfl (by decide +kernel) ⟨Nat.le_of_ble_eq_true rfl, Nat.le_of_ble_eq_true rfl⟩) hK hw hA rfl rfl hl.1 (Nat.le_of_ble_eq_true rfl) dX4_init_88 ⟨Nat.le_of_ble_eq_true rfl, Nat.le_of_ble_eq_true rfl⟩ (fun h_88 H locs hp_88 hw => ?_)
                    obtain ⟨od1, g1, g2, fi_88, hf_88⟩ := hp_88
                    have m_x_o1 := hf_88 _ _ f_x
                    have m_n0_o1 := hf_88 _ _ f_n0
                    have m_n0v_o1 := hf_88 _ _ f_n0v
                    have m_n0s_o1 := hf_88 _ _ f_n0s
                    have m_r0_o1 := hf_88 _ _ f_r0
                    have m_r0v_o1 := hf_88 _ _ f_r0v
                    have m_r0s_o1 := hf_88 _ _ f_r0s
                    have m_d_o1 := hf_88 _ _ f_d
                    have m_ss_o1 := hf_88 _ _ f_ss
                    have m_s0_o1 := hf_88 _ _ f_s0
                    have m_o0_o1 := hf_88 _ _ f_o0
                    have m_s1_o1 := hf_88 _ _ f_s1
                    have f_x := fi_88.one f_x n_x_s1
                    have f_n0 := fi_88.one f_n0 n_n0_s1
                    have f_n0v := fi_88.one f_n0v n_n0v_s1
                    have f_n0s := fi_88.one f_n0s n_n0s_s1
                    have f_r0 := fi_88.one f_r0 n_r0_s1
                    have f_r0v := fi_88.one f_r0v n_r0v_s1
                    have f_r0s := fi_88.one f_r0s n_r0s_s1
                    have f_d := fi_88.one f_d n_d_s1
                    have f_ss := fi_88.one f_ss n_ss_s1
                    have f_s0 := fi_88.one f_s0 n_s0_s1
                    have f_o0 := fi_88.one f_o0 n_o0_s1
                    have f_s1 := g1
                    have f_o1 := g2
                    have f_ss_0 := f_ss
                    refine q_stS F hK hw f_ss f_s1 (by unfold vp_in; decide) dX4_init_91 (fun h_91 H locs f_ss fr_91 hw => ?_)
                    have f_x := fr_91.one f_x n_x_ss
                    have f_n0 := fr_91.one f_n0 n_n0_ss
                    have f_n0v := fr_91.one f_n0v n_n0v_ss
                    have f_n0s := fr_91.one f_n0s n_n0s_ss
                    have f_r0 := fr_91.one f_r0 n_r0_ss
                    have f_r0v := fr_91.one f_r0v n_r0v_ss
                    have f_r0s := fr_91.one f_r0s n_r0s_ss
                    have f_d := fr_91.one f_d n_d_ss
                    have f_s0 := fr_91.one f_s0 n_ss_s0.symm
                    have f_o0 := fr_91.one f_o0 m_ss_o0.symm
                    have f_s1 := fr_91.one f_s1 n_ss_s1.symm
                    have f_o1 := fr_91.one f_o1 m_ss_o1.symm
                    refine lv_iinc (lv' := [(1, .int _), (0, .ref _)]) hx hb dX4_init_92 hl (k := 0) rfl rfl (by decide) rfl (fun ls hl => ?_)
                    refine lv_goto (tgt := 74) hx hb dX4_init_95 (by decide) ?_
                    refine lv_iload_n hx hb dX4_init_74 rfl (lv_at hl 0 rfl) ?_
                    refine lv_iconst (v := 3) hx hb dX4_init_75 (by decide) ?_
                    refine lv_icmp_ge (tgt := 98) hx hb dX4_init_76 (by decide) (fun c_76 => ?_) (fun c_76 => ?_)
                    · exact absurd c_76 (by decide)
                    · skip
                      refine lv_aload_n hx hb dX4_init_79 rfl (lv_at hl 1 rfl) ?_
                      refine p_get (ci := 4) (C := RX4) (T := TX4) (N := 6) 3 F rfl hi4 hl27 (by decide) hK hw f_x rfl dX4_init_80 ?_
                      refine lv_iload_n hx hb dX4_init_83 rfl (lv_at hl 0 rfl) ?_
                      refine q_new (fs := [.int 0, .int 0, .int 0, .null]) (ci := 3) (C := RX3) (T := TX3) (N := 4) (ty0 := tyX3) F rfl hi3 tyX3_ok (by decide +kernel) (by decide +kernel) (by decide +kernel) hK hw hA (fun j hj => by rcases (show j = 0 ∨ j = 1 ∨ j = 2 ∨ j = 3 by omega) with rfl | rfl | rfl | rfl <;> rfl) (Nat.le_of_ble_eq_true rfl) (Nat.le_of_ble_eq_true rfl) dX4_init_84 (fun qs2 h_84 H f_s2 fr_84 nq_84 hw => ?_)
                      have n_x_s2 := nq_84 _ _ f_x
                      have n_n0_s2 := nq_84 _ _ f_n0
                      have n_n0v_s2 := nq_84 _ _ f_n0v
                      have n_n0s_s2 := nq_84 _ _ f_n0s
                      have n_r0_s2 := nq_84 _ _ f_r0
                      have n_r0v_s2 := nq_84 _ _ f_r0v
                      have n_r0s_s2 := nq_84 _ _ f_r0s
                      have n_d_s2 := nq_84 _ _ f_d
                      have n_ss_s2 := nq_84 _ _ f_ss
                      have n_s0_s2 := nq_84 _ _ f_s0
                      have n_o0_s2 := nq_84 _ _ f_o0
                      have n_s1_s2 := nq_84 _ _ f_s1
                      have n_o1_s2 := nq_84 _ _ f_o1
                      have f_x := fr_84.none f_x
                      have f_n0 := fr_84.none f_n0
                      have f_n0v := fr_84.none f_n0v
                      have f_n0s := fr_84.none f_n0s
                      have f_r0 := fr_84.none f_r0
                      have f_r0v := fr_84.none f_r0v
                      have f_r0s := fr_84.none f_r0s
                      have f_d := fr_84.none f_d
                      have f_ss := fr_84.none f_ss
                      have f_s0 := fr_84.none f_s0
                      have f_o0 := fr_84.none f_o0
                      have f_s1 := fr_84.none f_s1
                      have f_o1 := fr_84.none f_o1
                      refine lv_dup hx hb dX4_init_87 rfl ?_
                      refine (c_X3_init l G Y _ _ f_s2).callI F (cwI 0 hts gX4_init_X3_init rfl rfl rfl (hts (.initialized RX3) (by decide +kernel)) (hts (.methodLink RX4 31 yX3_init) (by decide +kernel)) (hts (.instanceMethod yX3_init) (by decide +kernel)) rfl (by decide +kernel) ⟨Nat.le_of_ble_eq_true rfl, Nat.le_of_ble_eq_true rfl⟩) hK hw hA rfl rfl hl.1 (Nat.le_of_ble_eq_true rfl) dX4_init_88 ⟨Nat.le_of_ble_eq_true rfl, Nat.le_of_ble_eq_true rfl⟩ (fun h_88 H locs hp_88 hw => ?_)
                      obtain ⟨od2, g1, g2, fi_88, hf_88⟩ := hp_88
                      have m_x_o2 := hf_88 _ _ f_x
                      have m_n0_o2 := hf_88 _ _ f_n0
                      have m_n0v_o2 := hf_88 _ _ f_n0v
                      have m_n0s_o2 := hf_88 _ _ f_n0s
                      have m_r0_o2 := hf_88 _ _ f_r0
                      have m_r0v_o2 := hf_88 _ _ f_r0v
                      have m_r0s_o2 := hf_88 _ _ f_r0s
                      have m_d_o2 := hf_88 _ _ f_d
                      have m_ss_o2 := hf_88 _ _ f_ss
                      have m_s0_o2 := hf_88 _ _ f_s0
                      have m_o0_o2 := hf_88 _ _ f_o0
                      have m_s1_o2 := hf_88 _ _ f_s1
                      have m_o1_o2 := hf_88 _ _ f_o1
                      have m_s2_o2 := hf_88 _ _ f_s2
                      have f_x := fi_88.one f_x n_x_s2
                      have f_n0 := fi_88.one f_n0 n_n0_s2
                      have f_n0v := fi_88.one f_n0v n_n0v_s2
                      have f_n0s := fi_88.one f_n0s n_n0s_s2
                      have f_r0 := fi_88.one f_r0 n_r0_s2
                      have f_r0v := fi_88.one f_r0v n_r0v_s2
                      have f_r0s := fi_88.one f_r0s n_r0s_s2
                      have f_d := fi_88.one f_d n_d_s2
                      have f_ss := fi_88.one f_ss n_ss_s2
                      have f_s0 := fi_88.one f_s0 n_s0_s2
                      have f_o0 := fi_88.one f_o0 n_o0_s2
                      have f_s1 := fi_88.one f_s1 n_s1_s2
                      have f_o1 := fi_88.one f_o1 n_o1_s2
                      have f_s2 := g1
                      have f_o2 := g2
                      have f_ss_0 := f_ss
                      refine q_stS F hK hw f_ss f_s2 (by unfold vp_in; decide) dX4_init_91 (fun h_91 H locs f_ss fr_91 hw => ?_)
                      have f_x := fr_91.one f_x n_x_ss
                      have f_n0 := fr_91.one f_n0 n_n0_ss
                      have f_n0v := fr_91.one f_n0v n_n0v_ss
                      have f_n0s := fr_91.one f_n0s n_n0s_ss
                      have f_r0 := fr_91.one f_r0 n_r0_ss
                      have f_r0v := fr_91.one f_r0v n_r0v_ss
                      have f_r0s := fr_91.one f_r0s n_r0s_ss
                      have f_d := fr_91.one f_d n_d_ss
                      have f_s0 := fr_91.one f_s0 n_ss_s0.symm
                      have f_o0 := fr_91.one f_o0 m_ss_o0.symm
                      have f_s1 := fr_91.one f_s1 n_ss_s1.symm
                      have f_o1 := fr_91.one f_o1 m_ss_o1.symm
                      have f_s2 := fr_91.one f_s2 n_ss_s2.symm
                      have f_o2 := fr_91.one f_o2 m_ss_o2.symm
                      refine lv_iinc (lv' := [(1, .int _), (0, .ref _)]) hx hb dX4_init_92 hl (k := 0) rfl rfl (by decide) rfl (fun ls hl => ?_)
                      refine lv_goto (tgt := 74) hx hb dX4_init_95 (by decide) ?_
                      refine lv_iload_n hx hb dX4_init_74 rfl (lv_at hl 0 rfl) ?_
                      refine lv_iconst (v := 3) hx hb dX4_init_75 (by decide) ?_
                      refine lv_icmp_ge (tgt := 98) hx hb dX4_init_76 (by decide) (fun c_76 => ?_) (fun c_76 => ?_)
                      · skip
                        refine lv_aload_n hx hb dX4_init_98 rfl (lv_at hl 1 rfl) ?_
                        refine q_new (fs := [.null, .null, .null, .null, .int 0, .int 0]) (ci := 1) (C := RX1) (T := TX1) (N := 6) (ty0 := tyX1) F rfl hi1 tyX1_ok (by decide +kernel) (by decide +kernel) (by decide +kernel) hK hw hA (fun j hj => by rcases (show j = 0 ∨ j = 1 ∨ j = 2 ∨ j = 3 ∨ j = 4 ∨ j = 5 by omega) with rfl | rfl | rfl | rfl | rfl | rfl <;> rfl) (Nat.le_of_ble_eq_true rfl) (Nat.le_of_ble_eq_true rfl) dX4_init_99 (fun qc h_99 H f_ch fr_99 nq_99 hw => ?_)
                        have n_x_ch := nq_99 _ _ f_x
                        have n_n0_ch := nq_99 _ _ f_n0
                        have n_n0v_ch := nq_99 _ _ f_n0v
                        have n_n0s_ch := nq_99 _ _ f_n0s
                        have n_r0_ch := nq_99 _ _ f_r0
                        have n_r0v_ch := nq_99 _ _ f_r0v
                        have n_r0s_ch := nq_99 _ _ f_r0s
                        have n_d_ch := nq_99 _ _ f_d
                        have n_ss_ch := nq_99 _ _ f_ss
                        have n_s0_ch := nq_99 _ _ f_s0
                        have n_o0_ch := nq_99 _ _ f_o0
                        have n_s1_ch := nq_99 _ _ f_s1
                        have n_o1_ch := nq_99 _ _ f_o1
                        have n_s2_ch := nq_99 _ _ f_s2
                        have n_o2_ch := nq_99 _ _ f_o2
                        have f_x := fr_99.none f_x
                        have f_n0 := fr_99.none f_n0
                        have f_n0v := fr_99.none f_n0v
                        have f_n0s := fr_99.none f_n0s
                        have f_r0 := fr_99.none f_r0
                        have f_r0v := fr_99.none f_r0v
                        have f_r0s := fr_99.none f_r0s
                        have f_d := fr_99.none f_d
                        have f_ss := fr_99.none f_ss
                        have f_s0 := fr_99.none f_s0
                        have f_o0 := fr_99.none f_o0
                        have f_s1 := fr_99.none f_s1
                        have f_o1 := fr_99.none f_o1
                        have f_s2 := fr_99.none f_s2
                        have f_o2 := fr_99.none f_o2
                        refine lv_dup hx hb dX4_init_102 rfl ?_
                        refine (c_X1_init l G Y _ _ f_ch).callI F (cwI 0 hts gX4_init_X1_init rfl rfl rfl (hts (.initialized RX1) (by decide +kernel)) (hts (.methodLink RX4 34 yX1_init) (by decide +kernel)) (hts (.instanceMethod yX1_init) (by decide +kernel)) rfl (by decide +kernel) ⟨Nat.le_of_ble_eq_true rfl, Nat.le_of_ble_eq_true rfl⟩) hK hw hA rfl rfl hl.1 (Nat.le_of_ble_eq_true rfl) dX4_init_103 ⟨Nat.le_of_ble_eq_true rfl, Nat.le_of_ble_eq_true rfl⟩ (fun h_103 H locs hp_103 hw => ?_)
                        obtain ⟨ca, g1, g2, g3, fi_103, hf_103⟩ := hp_103
                        have m_x_a0 := hf_103 _ _ f_x 0 (by decide)
                        have m_x_a1 := hf_103 _ _ f_x 1 (by decide)
                        have m_x_a2 := hf_103 _ _ f_x 2 (by decide)
                        have m_x_a3 := hf_103 _ _ f_x 3 (by decide)
                        have m_n0_a0 := hf_103 _ _ f_n0 0 (by decide)
                        have m_n0_a1 := hf_103 _ _ f_n0 1 (by decide)
                        have m_n0_a2 := hf_103 _ _ f_n0 2 (by decide)
                        have m_n0_a3 := hf_103 _ _ f_n0 3 (by decide)
                        have m_n0v_a0 := hf_103 _ _ f_n0v 0 (by decide)
                        have m_n0v_a1 := hf_103 _ _ f_n0v 1 (by decide)
                        have m_n0v_a2 := hf_103 _ _ f_n0v 2 (by decide)
                        have m_n0v_a3 := hf_103 _ _ f_n0v 3 (by decide)
                        have m_n0s_a0 := hf_103 _ _ f_n0s 0 (by decide)
                        have m_n0s_a1 := hf_103 _ _ f_n0s 1 (by decide)
                        have m_n0s_a2 := hf_103 _ _ f_n0s 2 (by decide)
                        have m_n0s_a3 := hf_103 _ _ f_n0s 3 (by decide)
                        have m_r0_a0 := hf_103 _ _ f_r0 0 (by decide)
                        have m_r0_a1 := hf_103 _ _ f_r0 1 (by decide)
                        have m_r0_a2 := hf_103 _ _ f_r0 2 (by decide)
                        have m_r0_a3 := hf_103 _ _ f_r0 3 (by decide)
                        have m_r0v_a0 := hf_103 _ _ f_r0v 0 (by decide)
                        have m_r0v_a1 := hf_103 _ _ f_r0v 1 (by decide)
                        have m_r0v_a2 := hf_103 _ _ f_r0v 2 (by decide)
                        have m_r0v_a3 := hf_103 _ _ f_r0v 3 (by decide)
                        have m_r0s_a0 := hf_103 _ _ f_r0s 0 (by decide)
                        have m_r0s_a1 := hf_103 _ _ f_r0s 1 (by decide)
                        have m_r0s_a2 := hf_103 _ _ f_r0s 2 (by decide)
                        have m_r0s_a3 := hf_103 _ _ f_r0s 3 (by decide)
                        have m_d_a0 := hf_103 _ _ f_d 0 (by decide)
                        have m_d_a1 := hf_103 _ _ f_d 1 (by decide)
                        have m_d_a2 := hf_103 _ _ f_d 2 (by decide)
                        have m_d_a3 := hf_103 _ _ f_d 3 (by decide)
                        have m_ss_a0 := hf_103 _ _ f_ss 0 (by decide)
                        have m_ss_a1 := hf_103 _ _ f_ss 1 (by decide)
                        have m_ss_a2 := hf_103 _ _ f_ss 2 (by decide)
                        have m_ss_a3 := hf_103 _ _ f_ss 3 (by decide)
                        have m_s0_a0 := hf_103 _ _ f_s0 0 (by decide)
                        have m_s0_a1 := hf_103 _ _ f_s0 1 (by decide)
                        have m_s0_a2 := hf_103 _ _ f_s0 2 (by decide)
                        have m_s0_a3 := hf_103 _ _ f_s0 3 (by decide)
                        have m_o0_a0 := hf_103 _ _ f_o0 0 (by decide)
                        have m_o0_a1 := hf_103 _ _ f_o0 1 (by decide)
                        have m_o0_a2 := hf_103 _ _ f_o0 2 (by decide)
                        have m_o0_a3 := hf_103 _ _ f_o0 3 (by decide)
                        have m_s1_a0 := hf_103 _ _ f_s1 0 (by decide)
                        have m_s1_a1 := hf_103 _ _ f_s1 1 (by decide)
                        have m_s1_a2 := hf_103 _ _ f_s1 2 (by decide)
                        have m_s1_a3 := hf_103 _ _ f_s1 3 (by decide)
                        have m_o1_a0 := hf_103 _ _ f_o1 0 (by decide)
                        have m_o1_a1 := hf_103 _ _ f_o1 1 (by decide)
                        have m_o1_a2 := hf_103 _ _ f_o1 2 (by decide)
                        have m_o1_a3 := hf_103 _ _ f_o1 3 (by decide)
                        have m_s2_a0 := hf_103 _ _ f_s2 0 (by decide)
                        have m_s2_a1 := hf_103 _ _ f_s2 1 (by decide)
                        have m_s2_a2 := hf_103 _ _ f_s2 2 (by decide)
                        have m_s2_a3 := hf_103 _ _ f_s2 3 (by decide)
                        have m_o2_a0 := hf_103 _ _ f_o2 0 (by decide)
                        have m_o2_a1 := hf_103 _ _ f_o2 1 (by decide)
                        have m_o2_a2 := hf_103 _ _ f_o2 2 (by decide)
                        have m_o2_a3 := hf_103 _ _ f_o2 3 (by decide)
                        have m_ch_a0 := hf_103 _ _ f_ch 0 (by decide)
                        have m_ch_a1 := hf_103 _ _ f_ch 1 (by decide)
                        have m_ch_a2 := hf_103 _ _ f_ch 2 (by decide)
                        have m_ch_a3 := hf_103 _ _ f_ch 3 (by decide)
                        have f_x := fi_103.one f_x n_x_ch
                        have f_n0 := fi_103.one f_n0 n_n0_ch
                        have f_n0v := fi_103.one f_n0v n_n0v_ch
                        have f_n0s := fi_103.one f_n0s n_n0s_ch
                        have f_r0 := fi_103.one f_r0 n_r0_ch
                        have f_r0v := fi_103.one f_r0v n_r0v_ch
                        have f_r0s := fi_103.one f_r0s n_r0s_ch
                        have f_d := fi_103.one f_d n_d_ch
                        have f_ss := fi_103.one f_ss n_ss_ch
                        have f_s0 := fi_103.one f_s0 n_s0_ch
                        have f_o0 := fi_103.one f_o0 n_o0_ch
                        have f_s1 := fi_103.one f_s1 n_s1_ch
                        have f_o1 := fi_103.one f_o1 n_o1_ch
                        have f_s2 := fi_103.one f_s2 n_s2_ch
                        have f_o2 := fi_103.one f_o2 n_o2_ch
                        have f_ch := g1
                        have f_a0 := g2 0 (by decide)
                        have f_a1 := g2 1 (by decide)
                        have f_a2 := g2 2 (by decide)
                        have f_a3 := g2 3 (by decide)
                        have m_a0_a1 : ca 0 ≠ ca 1 := fun q => absurd (g3 0 1 (by decide) (by decide) q) (by decide)
                        have m_a0_a2 : ca 0 ≠ ca 2 := fun q => absurd (g3 0 2 (by decide) (by decide) q) (by decide)
                        have m_a0_a3 : ca 0 ≠ ca 3 := fun q => absurd (g3 0 3 (by decide) (by decide) q) (by decide)
                        have m_a1_a2 : ca 1 ≠ ca 2 := fun q => absurd (g3 1 2 (by decide) (by decide) q) (by decide)
                        have m_a1_a3 : ca 1 ≠ ca 3 := fun q => absurd (g3 1 3 (by decide) (by decide) q) (by decide)
                        have m_a2_a3 : ca 2 ≠ ca 3 := fun q => absurd (g3 2 3 (by decide) (by decide) q) (by decide)
                        have f_x_0 := f_x
                        refine q_putF (fs' := [_, _, _, _, _, _]) (ci := 4) (C := RX4) (T := TX4) (N := 6) (ty0 := tyX4) (ty := .object "Scriptorium$Chronicle") 4 F rfl hi4 tyX4_ok nmX4 hl35 (by decide) rfl hnm rfl (by decide +kernel) rfl rfl (Nat.le_of_ble_eq_true rfl) hK hw f_x rfl dX4_init_106 (fun h_106 H locs f_x fr_106 hw => ?_)
                        have f_n0 := fr_106.one f_n0 n_x_n0.symm
                        have f_n0v := fr_106.one f_n0v m_x_n0v.symm
                        have f_n0s := fr_106.one f_n0s m_x_n0s.symm
                        have f_r0 := fr_106.one f_r0 n_x_r0.symm
                        have f_r0v := fr_106.one f_r0v m_x_r0v.symm
                        have f_r0s := fr_106.one f_r0s m_x_r0s.symm
                        have f_d := fr_106.one f_d n_x_d.symm
                        have f_ss := fr_106.one f_ss n_x_ss.symm
                        have f_s0 := fr_106.one f_s0 n_x_s0.symm
                        have f_o0 := fr_106.one f_o0 m_x_o0.symm
                        have f_s1 := fr_106.one f_s1 n_x_s1.symm
                        have f_o1 := fr_106.one f_o1 m_x_o1.symm
                        have f_s2 := fr_106.one f_s2 n_x_s2.symm
                        have f_o2 := fr_106.one f_o2 m_x_o2.symm
                        have f_ch := fr_106.one f_ch n_x_ch.symm
                        have f_a0 := fr_106.one f_a0 m_x_a0.symm
                        have f_a1 := fr_106.one f_a1 m_x_a1.symm
                        have f_a2 := fr_106.one f_a2 m_x_a2.symm
                        have f_a3 := fr_106.one f_a3 m_x_a3.symm
                        refine lv_aload_n hx hb dX4_init_109 rfl (lv_at hl 1 rfl) ?_
                        refine lv_bipush (v := 8) hx hb dX4_init_110 (by decide) ?_
                        refine q_newI (N' := 8) F (by decide +kernel) hK hw hA (by decide) rfl (by decide) (Nat.le_of_ble_eq_true rfl) (Nat.le_of_ble_eq_true rfl) dX4_init_112 (fun q_112 h_112 H f_t fr_112 nq_112 hw => ?_)
                        have n_x_t := nq_112 _ _ f_x
                        have n_n0_t := nq_112 _ _ f_n0
                        have n_n0v_t := nq_112 _ _ f_n0v
                        have n_n0s_t := nq_112 _ _ f_n0s
                        have n_r0_t := nq_112 _ _ f_r0
                        have n_r0v_t := nq_112 _ _ f_r0v
                        have n_r0s_t := nq_112 _ _ f_r0s
                        have n_d_t := nq_112 _ _ f_d
                        have n_ss_t := nq_112 _ _ f_ss
                        have n_s0_t := nq_112 _ _ f_s0
                        have n_o0_t := nq_112 _ _ f_o0
                        have n_s1_t := nq_112 _ _ f_s1
                        have n_o1_t := nq_112 _ _ f_o1
                        have n_s2_t := nq_112 _ _ f_s2
                        have n_o2_t := nq_112 _ _ f_o2
                        have n_ch_t := nq_112 _ _ f_ch
                        have n_a0_t := nq_112 _ _ f_a0
                        have n_a1_t := nq_112 _ _ f_a1
                        have n_a2_t := nq_112 _ _ f_a2
                        have n_a3_t := nq_112 _ _ f_a3
                        have f_x := fr_112.none f_x
                        have f_n0 := fr_112.none f_n0
                        have f_n0v := fr_112.none f_n0v
                        have f_n0s := fr_112.none f_n0s
                        have f_r0 := fr_112.none f_r0
                        have f_r0v := fr_112.none f_r0v
                        have f_r0s := fr_112.none f_r0s
                        have f_d := fr_112.none f_d
                        have f_ss := fr_112.none f_ss
                        have f_s0 := fr_112.none f_s0
                        have f_o0 := fr_112.none f_o0
                        have f_s1 := fr_112.none f_s1
                        have f_o1 := fr_112.none f_o1
                        have f_s2 := fr_112.none f_s2
                        have f_o2 := fr_112.none f_o2
                        have f_ch := fr_112.none f_ch
                        have f_a0 := fr_112.none f_a0
                        have f_a1 := fr_112.none f_a1
                        have f_a2 := fr_112.none f_a2
                        have f_a3 := fr_112.none f_a3
                        have f_x_0 := f_x
                        refine q_putF (fs' := [_, _, _, _, _, _]) (ci := 4) (C := RX4) (T := TX4) (N := 6) (ty0 := tyX4) (ty := .array .int) 5 F rfl hi4 tyX4_ok nmX4 hl39 (by decide) rfl hnm rfl (by decide +kernel) rfl rfl (Nat.le_of_ble_eq_true rfl) hK hw f_x rfl dX4_init_114 (fun h_114 H locs f_x fr_114 hw => ?_)
                        have f_n0 := fr_114.one f_n0 n_x_n0.symm
                        have f_n0v := fr_114.one f_n0v m_x_n0v.symm
                        have f_n0s := fr_114.one f_n0s m_x_n0s.symm
                        have f_r0 := fr_114.one f_r0 n_x_r0.symm
                        have f_r0v := fr_114.one f_r0v m_x_r0v.symm
                        have f_r0s := fr_114.one f_r0s m_x_r0s.symm
                        have f_d := fr_114.one f_d n_x_d.symm
                        have f_ss := fr_114.one f_ss n_x_ss.symm
                        have f_s0 := fr_114.one f_s0 n_x_s0.symm
                        have f_o0 := fr_114.one f_o0 m_x_o0.symm
                        have f_s1 := fr_114.one f_s1 n_x_s1.symm
                        have f_o1 := fr_114.one f_o1 m_x_o1.symm
                        have f_s2 := fr_114.one f_s2 n_x_s2.symm
                        have f_o2 := fr_114.one f_o2 m_x_o2.symm
                        have f_ch := fr_114.one f_ch n_x_ch.symm
                        have f_a0 := fr_114.one f_a0 m_x_a0.symm
                        have f_a1 := fr_114.one f_a1 m_x_a1.symm
                        have f_a2 := fr_114.one f_a2 m_x_a2.symm
                        have f_a3 := fr_114.one f_a3 m_x_a3.symm
                        have f_t := fr_114.one f_t n_x_t.symm
                        refine ct_vret hx hb hr hlocks hK hw dX4_init_117 (Nat.le_of_ble_eq_true rfl) (Nat.le_of_ble_eq_true rfl) ⟨fun k => [x, qn, qr, q_34, q_66, qc, q_112, qs0, qs1, qs2, od0, od1, od2, ca 0, ca 1, ca 2, ca 3].getD k 0, (fun _ => qn, ([qn, qr], va_up (fun _ => -1) qr (-2), fun _ => 0, fun _ _ => 0, fun _ _ => 0, va_up (fun _ => v_n0) qr v_r0, va_up (fun _ => so_n0) qr so_r0), (fun _ => 100, fun _ => 0, fun _ => 0, fun _ _ => (0, 0, 0, 0, 0)), (0, 0, fun _ _ => 0), fun _ => 0), rfl, ?_, ?_⟩
                        · refine ⟨f_x, ⟨_, f_d, fun i hi => ⟨?_, by simp⟩⟩, fun b hb => ?_, ⟨?_, ?_, ?_, ?_, ?_, ?_, ?_, by simp, by simp⟩, ⟨⟨_, f_ss, fun i hi => ?_⟩, fun i hi => ?_⟩, ⟨f_ch, fun k hk => ?_, by decide, by decide⟩, f_t⟩
                          · rcases (show i = 0 ∨ i = 1 ∨ i = 2 ∨ i = 3 ∨ i = 4 ∨ i = 5 by omega) with rfl | rfl | rfl | rfl | rfl | rfl <;> rfl
                          · rcases (show b = qn ∨ b = qr by simpa using hb) with e | e
                            · rw [e, va_up_ne _ _ n_n0_r0, va_up_ne _ _ n_n0_r0, va_up_ne _ _ n_n0_r0]; exact ⟨f_n0, f_n0v, f_n0s, Nat.zero_le _⟩
                            · rw [e, va_up_self, va_up_self, va_up_self]; exact ⟨f_r0, f_r0v, f_r0s, Nat.zero_le _⟩
                          · intro b hb c hc
                            rcases (show b = qn ∨ b = qr by simpa using hb) with e | e <;> rcases (show c = qn ∨ c = qr by simpa using hc) with e2 | e2 <;> rw [e, e2]
                            · exact fun _ => rfl
                            · rw [va_up_ne _ _ n_n0_r0, va_up_self]; exact fun q => absurd q m_n0v_r0v
                            · rw [va_up_ne _ _ n_n0_r0, va_up_self]; exact fun q => absurd q.symm m_n0v_r0v
                            · exact fun _ => rfl
                          · intro b hb c hc
                            rcases (show b = qn ∨ b = qr by simpa using hb) with e | e <;> rcases (show c = qn ∨ c = qr by simpa using hc) with e2 | e2 <;> rw [e, e2]
                            · exact fun _ => rfl
                            · rw [va_up_ne _ _ n_n0_r0, va_up_self]; exact fun q => absurd q m_n0s_r0s
                            · rw [va_up_ne _ _ n_n0_r0, va_up_self]; exact fun q => absurd q.symm m_n0s_r0s
                            · exact fun _ => rfl
                          · intro b hb
                            rcases (show b = qn ∨ b = qr by simpa using hb) with e | e
                            · rw [e, va_up_ne _ _ n_n0_r0]
                              refine ⟨n_n0s_t, fun k hk => ?_⟩
                              rcases (show k = 0 ∨ k = 1 ∨ k = 2 ∨ k = 3 by omega) with rfl | rfl | rfl | rfl
                              · exact m_n0s_a0
                              · exact m_n0s_a1
                              · exact m_n0s_a2
                              · exact m_n0s_a3
                            · rw [e, va_up_self]
                              refine ⟨n_r0s_t, fun k hk => ?_⟩
                              rcases (show k = 0 ∨ k = 1 ∨ k = 2 ∨ k = 3 by omega) with rfl | rfl | rfl | rfl
                              · exact m_r0s_a0
                              · exact m_r0s_a1
                              · exact m_r0s_a2
                              · exact m_r0s_a3
                          · intro k hk
                            rcases (show k = 0 ∨ k = 1 ∨ k = 2 ∨ k = 3 by omega) with rfl | rfl | rfl | rfl
                            · exact n_a0_t
                            · exact n_a1_t
                            · exact n_a2_t
                            · exact n_a3_t
                          · intro i j hi hj q
                            apply g3 i j hi hj
                            rcases (show i = 0 ∨ i = 1 ∨ i = 2 ∨ i = 3 by omega) with rfl | rfl | rfl | rfl <;> rcases (show j = 0 ∨ j = 1 ∨ j = 2 ∨ j = 3 by omega) with rfl | rfl | rfl | rfl <;> exact q
                          · exact tri n_s0_s1 n_s0_s2 n_s1_s2 (f := fun i => [x, qn, qr, q_34, q_66, qc, q_112, qs0, qs1, qs2, od0, od1, od2, ca 0, ca 1, ca 2, ca 3].getD (7 + i) 0)
                          · exact tri m_o0_o1 m_o0_o2 m_o1_o2 (f := fun i => [x, qn, qr, q_34, q_66, qc, q_112, qs0, qs1, qs2, od0, od1, od2, ca 0, ca 1, ca 2, ca 3].getD (10 + i) 0)
                          · rcases (show i = 0 ∨ i = 1 ∨ i = 2 by omega) with rfl | rfl | rfl <;> rfl
                          · rcases (show i = 0 ∨ i = 1 ∨ i = 2 by omega) with rfl | rfl | rfl
                            · exact ⟨f_s0, Nat.zero_le _, _, f_o0, fun k hk => absurd hk (Nat.not_lt_zero k)⟩
                            · exact ⟨f_s1, Nat.zero_le _, _, f_o1, fun k hk => absurd hk (Nat.not_lt_zero k)⟩
                            · exact ⟨f_s2, Nat.zero_le _, _, f_o2, fun k hk => absurd hk (Nat.not_lt_zero k)⟩
                          · rcases (show k = 0 ∨ k = 1 ∨ k = 2 ∨ k = 3 by omega) with rfl | rfl | rfl | rfl
                            · exact f_a0
                            · exact f_a1
                            · exact f_a2
                            · exact f_a3
                        · refine ⟨fun i hi => rfl, ?_, rfl, ?_, rfl, fun i hi => ⟨rfl, rfl, rfl⟩, rfl, rfl, fun k j => rfl, fun k => rfl⟩
                          · exact va_up_ne _ _ n_n0_r0
                          · exact va_up_self _ _ _
                      · exact absurd (by decide) c_76
              · exact absurd (by decide) c_45
