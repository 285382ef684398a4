set_option maxHeartbeats 4000000 in
set_option maxRecDepth 100000 in
theorem c_X0_length (l : Launch) (G : va_G) (Y : Nat → ClassId) (h : PH) (b v so : Nat) (sc : Int32) (nv : Nat) (fv : Nat → Int64) (fs : Nat → Int32) (f_b : pAt h b (oBook sc v so))(f_v : pAt h v (aJ Y nv fv)) : ctI l G Y pw yX0_length wsX0_length ({ frames := 0, cells := 0, slots := 0, locals := 0 }) [.ref b] h (fun r h' => h' = h ∧ r = nI nv) := by
  refine ctI.of (cc := cX0_length) (maxL := 1) (ret := (some .int)) (by decide +kernel) rfl (Nat.le_of_ble_eq_true rfl) ?_
  intro A p e s m below meth c ls hB
  obtain ⟨F, hr, hlocks, hnm, hK, hA, hw, hl⟩ := hB
  obtain ⟨hx, hb, hml, hown, hts⟩ := id F
  have hl : lv_has ls 1 [(0, .ref b)] := hl
  have hi0 : ∀ w ∈ wsX00, w ∈ wsX0_length := by decide +kernel
  have hl15 : Cond.fieldLink RX0 15 "Scriptorium$Book" "values" "[J" ∈ wsX0_length := by decide +kernel
  refine lv_aload_n hx hb dX0_length_0 rfl (lv_at hl 0 rfl) ?_
  refine p_get (ci := 0) (C := RX0) (T := TX0) (N := 3) 1 F rfl hi0 hl15 (by decide) hK hw f_b rfl dX0_length_1 ?_
  refine p_alen 1 F hK hw f_v rfl rfl dX0_length_4 ?_
  exact ct_iret hx hb hr (vp_nar_int _) hlocks hK hw dX0_length_5 (Nat.le_of_ble_eq_true rfl) (Nat.le_of_ble_eq_true rfl) ⟨rfl, rfl⟩

set_option maxHeartbeats 4000000 in
set_option maxRecDepth 100000 in
theorem c_X0_isNoBook (l : Launch) (G : va_G) (Y : Nat → ClassId) (h : PH) (b v so : Nat) (sc : Int32) (f_b : pAt h b (oBook sc v so)) : ctI l G Y pw yX0_isNoBook wsX0_isNoBook ({ frames := 0, cells := 0, slots := 0, locals := 0 }) [.ref b] h (fun r h' => h' = h ∧ ((sc < 0 ∧ r = 1) ∨ (¬ sc < 0 ∧ r = 0))) := by
  refine ctI.of (cc := cX0_isNoBook) (maxL := 1) (ret := (some .boolean)) (by decide +kernel) rfl (Nat.le_of_ble_eq_true rfl) ?_
  intro A p e s m below meth c ls hB
  obtain ⟨F, hr, hlocks, hnm, hK, hA, hw, hl⟩ := hB
  obtain ⟨hx, hb, hml, hown, hts⟩ := id F
  have hl : lv_has ls 1 [(0, .ref b)] := hl
  have hi0 : ∀ w ∈ wsX00, w ∈ wsX0_isNoBook := by decide +kernel
  have hl9 : Cond.fieldLink RX0 9 "Scriptorium$Book" "script" "I" ∈ wsX0_isNoBook := by decide +kernel
  refine lv_aload_n hx hb dX0_isNoBook_0 rfl (lv_at hl 0 rfl) ?_
  refine p_get (ci := 0) (C := RX0) (T := TX0) (N := 3) 0 F rfl hi0 hl9 (by decide) hK hw f_b rfl dX0_isNoBook_1 ?_
  refine lv_if_ge (tgt := 11) hx hb dX0_isNoBook_4 (by decide) (fun c_4 => ?_) (fun c_4 => ?_)
  · skip
    refine lv_iconst (v := 0) hx hb dX0_isNoBook_11 (by decide) ?_
    exact ct_iret hx hb hr rfl hlocks hK hw dX0_isNoBook_12 (Nat.le_of_ble_eq_true rfl) (Nat.le_of_ble_eq_true rfl) ⟨rfl, Or.inr ⟨isNot c_4, rfl⟩⟩
  · skip
    refine lv_iconst (v := 1) hx hb dX0_isNoBook_7 (by decide) ?_
    refine lv_goto (tgt := 12) hx hb dX0_isNoBook_8 (by decide) ?_
    exact ct_iret hx hb hr rfl hlocks hK hw dX0_isNoBook_12 (Nat.le_of_ble_eq_true rfl) (Nat.le_of_ble_eq_true rfl) ⟨rfl, Or.inl ⟨Int32.not_le.mp c_4, rfl⟩⟩

set_option maxHeartbeats 4000000 in
set_option maxRecDepth 100000 in
theorem c_X0_hasPictures (l : Launch) (G : va_G) (Y : Nat → ClassId) (h : PH) (b v so : Nat) (sc : Int32) (f_b : pAt h b (oBook sc v so)) : ctI l G Y pw yX0_hasPictures wsX0_hasPictures ({ frames := 0, cells := 0, slots := 0, locals := 0 }) [.ref b] h (fun r h' => h' = h ∧ ((6 ≤ sc ∧ r = 1) ∨ (¬ 6 ≤ sc ∧ r = 0))) := by
  refine ctI.of (cc := cX0_hasPictures) (maxL := 1) (ret := (some .boolean)) (by decide +kernel) rfl (Nat.le_of_ble_eq_true rfl) ?_
  intro A p e s m below meth c ls hB
  obtain ⟨F, hr, hlocks, hnm, hK, hA, hw, hl⟩ := hB
  obtain ⟨hx, hb, hml, hown, hts⟩ := id F
  have hl : lv_has ls 1 [(0, .ref b)] := hl
  have hi0 : ∀ w ∈ wsX00, w ∈ wsX0_hasPictures := by decide +kernel
  have hl9 : Cond.fieldLink RX0 9 "Scriptorium$Book" "script" "I" ∈ wsX0_hasPictures := by decide +kernel
  refine lv_aload_n hx hb dX0_hasPictures_0 rfl (lv_at hl 0 rfl) ?_
  refine p_get (ci := 0) (C := RX0) (T := TX0) (N := 3) 0 F rfl hi0 hl9 (by decide) hK hw f_b rfl dX0_hasPictures_1 ?_
  refine lv_bipush (v := 6) hx hb dX0_hasPictures_4 (by decide) ?_
  refine lv_icmp_lt (tgt := 13) hx hb dX0_hasPictures_6 (by decide) (fun c_6 => ?_) (fun c_6 => ?_)
  · skip
    refine lv_iconst (v := 0) hx hb dX0_hasPictures_13 (by decide) ?_
    exact ct_iret hx hb hr rfl hlocks hK hw dX0_hasPictures_14 (Nat.le_of_ble_eq_true rfl) (Nat.le_of_ble_eq_true rfl) ⟨rfl, Or.inr ⟨Int32.not_le.mpr c_6, rfl⟩⟩
  · skip
    refine lv_iconst (v := 1) hx hb dX0_hasPictures_9 (by decide) ?_
    refine lv_goto (tgt := 14) hx hb dX0_hasPictures_10 (by decide) ?_
    exact ct_iret hx hb hr rfl hlocks hK hw dX0_hasPictures_14 (Nat.le_of_ble_eq_true rfl) (Nat.le_of_ble_eq_true rfl) ⟨rfl, Or.inl ⟨Int32.not_lt.mp c_6, rfl⟩⟩

set_option maxHeartbeats 4000000 in
set_option maxRecDepth 100000 in
theorem c_X0_isAlike (l : Launch) (G : va_G) (Y : Nat → ClassId) (h : PH) (b v so : Nat) (sc : Int32) (o v2 so2 : Nat) (sc2 : Int32) (f_b : pAt h b (oBook sc v so))(f_o : pAt h o (oBook sc2 v2 so2)) : ctI l G Y pw yX0_isAlike wsX0_isAlike ({ frames := 1, cells := 0, slots := 0, locals := 20 }) [.ref b, .ref o] h (fun r h' => h' = h ∧ ((cAlike sc sc2 ∧ r = 1) ∨ (¬ cAlike sc sc2 ∧ r = 0))) := by
  refine ctI.of (cc := cX0_isAlike) (maxL := 2) (ret := (some .boolean)) (by decide +kernel) rfl (Nat.le_of_ble_eq_true rfl) ?_
  intro A p e s m below meth c ls hB
  obtain ⟨F, hr, hlocks, hnm, hK, hA, hw, hl⟩ := hB
  obtain ⟨hx, hb, hml, hown, hts⟩ := id F
  have hl : lv_has ls 2 [(0, .ref b), (1, .ref o)] := hl
  have hi0 : ∀ w ∈ wsX00, w ∈ wsX0_isAlike := by decide +kernel
  have hl9 : Cond.fieldLink RX0 9 "Scriptorium$Book" "script" "I" ∈ wsX0_isAlike := by decide +kernel
  refine lv_aload_n hx hb dX0_isAlike_0 rfl (lv_at hl 0 rfl) ?_
  refine (c_X0_isNoBook l G Y _ _ _ _ _ f_b).callV F (cwV 0 hts gX0_isAlike_X0_isNoBook rfl rfl rfl (by decide +kernel) ⟨Nat.le_of_ble_eq_true rfl, Nat.le_of_ble_eq_true rfl⟩) hK hw hA (p_recv hK hw f_b rfl) rfl rfl hl.1 (Nat.le_of_ble_eq_true rfl) dX0_isAlike_1 ⟨Nat.le_of_ble_eq_true rfl, Nat.le_of_ble_eq_true rfl⟩ (fun r_1 h_1 H locs hp_1 hw => ?_)
  obtain ⟨eh_1, hp_1⟩ := hp_1
  rw [eh_1] at hw
  rcases hp_1 with ⟨hq_1, rfl⟩ | ⟨hq_1, rfl⟩
  · skip
    refine lv_if_ne (tgt := 36) hx hb dX0_isAlike_4 (by decide) (fun c_4 => ?_) (fun c_4 => ?_)
    · skip
      refine lv_iconst (v := 0) hx hb dX0_isAlike_36 (by decide) ?_
      exact ct_iret hx hb hr rfl hlocks hK hw dX0_isAlike_37 (Nat.le_of_ble_eq_true rfl) (Nat.le_of_ble_eq_true rfl) ⟨rfl, Or.inr ⟨fun h => h.1 hq_1, rfl⟩⟩
    · exact absurd c_4 (by decide)
  · skip
    refine lv_if_ne (tgt := 36) hx hb dX0_isAlike_4 (by decide) (fun c_4 => ?_) (fun c_4 => ?_)
    · exact absurd rfl c_4
    · skip
      refine lv_aload_n hx hb dX0_isAlike_7 rfl (lv_at hl 0 rfl) ?_
      refine p_get (ci := 0) (C := RX0) (T := TX0) (N := 3) 0 F rfl hi0 hl9 (by decide) hK hw f_b rfl dX0_isAlike_8 ?_
      refine lv_aload_n hx hb dX0_isAlike_11 rfl (lv_at hl 1 rfl) ?_
      refine p_get (ci := 0) (C := RX0) (T := TX0) (N := 3) 0 F rfl hi0 hl9 (by decide) hK hw f_o rfl dX0_isAlike_12 ?_
      refine lv_icmp_eq (tgt := 32) hx hb dX0_isAlike_15 (by decide) (fun c_15 => ?_) (fun c_15 => ?_)
      · skip
        refine lv_iconst (v := 1) hx hb dX0_isAlike_32 (by decide) ?_
        refine lv_goto (tgt := 37) hx hb dX0_isAlike_33 (by decide) ?_
        exact ct_iret hx hb hr rfl hlocks hK hw dX0_isAlike_37 (Nat.le_of_ble_eq_true rfl) (Nat.le_of_ble_eq_true rfl) ⟨rfl, Or.inl ⟨⟨hq_1, Or.inl c_15⟩, rfl⟩⟩
      · skip
        refine lv_aload_n hx hb dX0_isAlike_18 rfl (lv_at hl 0 rfl) ?_
        refine (c_X0_hasPictures l G Y _ _ _ _ _ f_b).callV F (cwV 0 hts gX0_isAlike_X0_hasPictures rfl rfl rfl (by decide +kernel) ⟨Nat.le_of_ble_eq_true rfl, Nat.le_of_ble_eq_true rfl⟩) hK hw hA (p_recv hK hw f_b rfl) rfl rfl hl.1 (Nat.le_of_ble_eq_true rfl) dX0_isAlike_19 ⟨Nat.le_of_ble_eq_true rfl, Nat.le_of_ble_eq_true rfl⟩ (fun r_19 h_19 H locs hp_19 hw => ?_)
        obtain ⟨eh_19, hp_19⟩ := hp_19
        rw [eh_19] at hw
        rcases hp_19 with ⟨hq_19, rfl⟩ | ⟨hq_19, rfl⟩
        · skip
          refine lv_if_eq (tgt := 36) hx hb dX0_isAlike_22 (by decide) (fun c_22 => ?_) (fun c_22 => ?_)
          · exact absurd c_22 (by decide)
          · skip
            refine lv_aload_n hx hb dX0_isAlike_25 rfl (lv_at hl 1 rfl) ?_
            refine (c_X0_hasPictures l G Y _ _ _ _ _ f_o).callV F (cwV 0 hts gX0_isAlike_X0_hasPictures rfl rfl rfl (by decide +kernel) ⟨Nat.le_of_ble_eq_true rfl, Nat.le_of_ble_eq_true rfl⟩) hK hw hA (p_recv hK hw f_o rfl) rfl rfl hl.1 (Nat.le_of_ble_eq_true rfl) dX0_isAlike_26 ⟨Nat.le_of_ble_eq_true rfl, Nat.le_of_ble_eq_true rfl⟩ (fun r_26 h_26 H locs hp_26 hw => ?_)
            obtain ⟨eh_26, hp_26⟩ := hp_26
            rw [eh_26] at hw
            rcases hp_26 with ⟨hq_26, rfl⟩ | ⟨hq_26, rfl⟩
            · skip
              refine lv_if_eq (tgt := 36) hx hb dX0_isAlike_29 (by decide) (fun c_29 => ?_) (fun c_29 => ?_)
              · exact absurd c_29 (by decide)
              · skip
                refine lv_iconst (v := 1) hx hb dX0_isAlike_32 (by decide) ?_
                refine lv_goto (tgt := 37) hx hb dX0_isAlike_33 (by decide) ?_
                exact ct_iret hx hb hr rfl hlocks hK hw dX0_isAlike_37 (Nat.le_of_ble_eq_true rfl) (Nat.le_of_ble_eq_true rfl) ⟨rfl, Or.inl ⟨⟨hq_1, Or.inr ⟨hq_19, hq_26⟩⟩, rfl⟩⟩
            · skip
              refine lv_if_eq (tgt := 36) hx hb dX0_isAlike_29 (by decide) (fun c_29 => ?_) (fun c_29 => ?_)
              · skip
                refine lv_iconst (v := 0) hx hb dX0_isAlike_36 (by decide) ?_
                exact ct_iret hx hb hr rfl hlocks hK hw dX0_isAlike_37 (Nat.le_of_ble_eq_true rfl) (Nat.le_of_ble_eq_true rfl) ⟨rfl, Or.inr ⟨fun h => h.2.elim c_15 (fun q => hq_26 q.2), rfl⟩⟩
              · exact absurd rfl c_29
        · skip
          refine lv_if_eq (tgt := 36) hx hb dX0_isAlike_22 (by decide) (fun c_22 => ?_) (fun c_22 => ?_)
          · skip
            refine lv_iconst (v := 0) hx hb dX0_isAlike_36 (by decide) ?_
            exact ct_iret hx hb hr rfl hlocks hK hw dX0_isAlike_37 (Nat.le_of_ble_eq_true rfl) (Nat.le_of_ble_eq_true rfl) ⟨rfl, Or.inr ⟨fun h => h.2.elim c_15 (fun q => hq_19 q.1), rfl⟩⟩
          · exact absurd rfl c_22

set_option maxHeartbeats 4000000 in
set_option maxRecDepth 100000 in
theorem c_X0_hasPlace (l : Launch) (G : va_G) (Y : Nat → ClassId) (h : PH) (b v so : Nat) (sc : Int32) (nv : Nat) (fv : Nat → Int64) (fs : Nat → Int32) (p0 : Int32) (f_b : pAt h b (oBook sc v so))(f_v : pAt h v (aJ Y nv fv)) : ctI l G Y pw yX0_hasPlace wsX0_hasPlace ({ frames := 0, cells := 0, slots := 0, locals := 0 }) [.ref b, .int p0] h (fun r h' => h' = h ∧ (((¬ p0 < 0 ∧ ¬ nI nv ≤ p0) ∧ r = 1) ∨ (¬ (¬ p0 < 0 ∧ ¬ nI nv ≤ p0) ∧ r = 0))) := by
  refine ctI.of (cc := cX0_hasPlace) (maxL := 2) (ret := (some .boolean)) (by decide +kernel) rfl (Nat.le_of_ble_eq_true rfl) ?_
  intro A p e s m below meth c ls hB
  obtain ⟨F, hr, hlocks, hnm, hK, hA, hw, hl⟩ := hB
  obtain ⟨hx, hb, hml, hown, hts⟩ := id F
  have hl : lv_has ls 2 [(0, .ref b), (1, .int p0)] := hl
  have hi0 : ∀ w ∈ wsX00, w ∈ wsX0_hasPlace := by decide +kernel
  have hl15 : Cond.fieldLink RX0 15 "Scriptorium$Book" "values" "[J" ∈ wsX0_hasPlace := by decide +kernel
  refine lv_iload_n hx hb dX0_hasPlace_0 rfl (lv_at hl 1 rfl) ?_
  refine lv_if_lt (tgt := 17) hx hb dX0_hasPlace_1 (by decide) (fun c_1 => ?_) (fun c_1 => ?_)
  · skip
    refine lv_iconst (v := 0) hx hb dX0_hasPlace_17 (by decide) ?_
    exact ct_iret hx hb hr rfl hlocks hK hw dX0_hasPlace_18 (Nat.le_of_ble_eq_true rfl) (Nat.le_of_ble_eq_true rfl) ⟨rfl, Or.inr ⟨fun h => h.1 c_1, rfl⟩⟩
  · skip
    refine lv_iload_n hx hb dX0_hasPlace_4 rfl (lv_at hl 1 rfl) ?_
    refine lv_aload_n hx hb dX0_hasPlace_5 rfl (lv_at hl 0 rfl) ?_
    refine p_get (ci := 0) (C := RX0) (T := TX0) (N := 3) 1 F rfl hi0 hl15 (by decide) hK hw f_b rfl dX0_hasPlace_6 ?_
    refine p_alen 1 F hK hw f_v rfl rfl dX0_hasPlace_9 ?_
    refine lv_icmp_ge (tgt := 17) hx hb dX0_hasPlace_10 (by decide) (fun c_10 => ?_) (fun c_10 => ?_)
    · skip
      refine lv_iconst (v := 0) hx hb dX0_hasPlace_17 (by decide) ?_
      exact ct_iret hx hb hr rfl hlocks hK hw dX0_hasPlace_18 (Nat.le_of_ble_eq_true rfl) (Nat.le_of_ble_eq_true rfl) ⟨rfl, Or.inr ⟨fun h => h.2 c_10, rfl⟩⟩
    · skip
      refine lv_iconst (v := 1) hx hb dX0_hasPlace_13 (by decide) ?_
      refine lv_goto (tgt := 18) hx hb dX0_hasPlace_14 (by decide) ?_
      exact ct_iret hx hb hr rfl hlocks hK hw dX0_hasPlace_18 (Nat.le_of_ble_eq_true rfl) (Nat.le_of_ble_eq_true rfl) ⟨rfl, Or.inl ⟨⟨c_1, c_10⟩, rfl⟩⟩

set_option maxHeartbeats 4000000 in
set_option maxRecDepth 100000 in
theorem c_X0_hasRun (l : Launch) (G : va_G) (Y : Nat → ClassId) (h : PH) (b v so : Nat) (sc : Int32) (nv : Nat) (fv : Nat → Int64) (fs : Nat → Int32) (p0 p1 : Int32) (f_b : pAt h b (oBook sc v so))(f_v : pAt h v (aJ Y nv fv)) : ctI l G Y pw yX0_hasRun wsX0_hasRun ({ frames := 0, cells := 0, slots := 0, locals := 0 }) [.ref b, .int p0, .int p1] h (fun r h' => h' = h ∧ ((cRun nv p0 p1 ∧ r = 1) ∨ (¬ cRun nv p0 p1 ∧ r = 0))) := by
  refine ctI.of (cc := cX0_hasRun) (maxL := 3) (ret := (some .boolean)) (by decide +kernel) rfl (Nat.le_of_ble_eq_true rfl) ?_
  intro A p e s m below meth c ls hB
  obtain ⟨F, hr, hlocks, hnm, hK, hA, hw, hl⟩ := hB
  obtain ⟨hx, hb, hml, hown, hts⟩ := id F
  have hl : lv_has ls 3 [(0, .ref b), (1, .int p0), (2, .int p1)] := hl
  have hi0 : ∀ w ∈ wsX00, w ∈ wsX0_hasRun := by decide +kernel
  have hl15 : Cond.fieldLink RX0 15 "Scriptorium$Book" "values" "[J" ∈ wsX0_hasRun := by decide +kernel
  refine lv_iload_n hx hb dX0_hasRun_0 rfl (lv_at hl 1 rfl) ?_
  refine lv_if_lt (tgt := 23) hx hb dX0_hasRun_1 (by decide) (fun c_1 => ?_) (fun c_1 => ?_)
  · skip
    refine lv_iconst (v := 0) hx hb dX0_hasRun_23 (by decide) ?_
    exact ct_iret hx hb hr rfl hlocks hK hw dX0_hasRun_24 (Nat.le_of_ble_eq_true rfl) (Nat.le_of_ble_eq_true rfl) ⟨rfl, Or.inr ⟨fun h => h.1 c_1, rfl⟩⟩
  · skip
    refine lv_iload_n hx hb dX0_hasRun_4 rfl (lv_at hl 2 rfl) ?_
    refine lv_if_lt (tgt := 23) hx hb dX0_hasRun_5 (by decide) (fun c_5 => ?_) (fun c_5 => ?_)
    · skip
      refine lv_iconst (v := 0) hx hb dX0_hasRun_23 (by decide) ?_
      exact ct_iret hx hb hr rfl hlocks hK hw dX0_hasRun_24 (Nat.le_of_ble_eq_true rfl) (Nat.le_of_ble_eq_true rfl) ⟨rfl, Or.inr ⟨fun h => h.2.1 c_5, rfl⟩⟩
    · skip
      refine lv_iload_n hx hb dX0_hasRun_8 rfl (lv_at hl 1 rfl) ?_
      refine lv_aload_n hx hb dX0_hasRun_9 rfl (lv_at hl 0 rfl) ?_
      refine p_get (ci := 0) (C := RX0) (T := TX0) (N := 3) 1 F rfl hi0 hl15 (by decide) hK hw f_b rfl dX0_hasRun_10 ?_
      refine p_alen 1 F hK hw f_v rfl rfl dX0_hasRun_13 ?_
      refine lv_iload_n hx hb dX0_hasRun_14 rfl (lv_at hl 2 rfl) ?_
      refine lv_isub hx hb dX0_hasRun_15 ?_
      refine lv_icmp_gt (tgt := 23) hx hb dX0_hasRun_16 (by decide) (fun c_16 => ?_) (fun c_16 => ?_)
      · skip
        refine lv_iconst (v := 0) hx hb dX0_hasRun_23 (by decide) ?_
        exact ct_iret hx hb hr rfl hlocks hK hw dX0_hasRun_24 (Nat.le_of_ble_eq_true rfl) (Nat.le_of_ble_eq_true rfl) ⟨rfl, Or.inr ⟨fun h => h.2.2 c_16, rfl⟩⟩
      · skip
        refine lv_iconst (v := 1) hx hb dX0_hasRun_19 (by decide) ?_
        refine lv_goto (tgt := 24) hx hb dX0_hasRun_20 (by decide) ?_
        exact ct_iret hx hb hr rfl hlocks hK hw dX0_hasRun_24 (Nat.le_of_ble_eq_true rfl) (Nat.le_of_ble_eq_true rfl) ⟨rfl, Or.inl ⟨⟨c_1, c_5, c_16⟩, rfl⟩⟩

set_option maxHeartbeats 4000000 in
set_option maxRecDepth 100000 in
theorem c_X0_admits (l : Launch) (G : va_G) (Y : Nat → ClassId) (h : PH) (b v so : Nat) (sc : Int32) (p0 : Int32) (f_b : pAt h b (oBook sc v so)) : ctI l G Y pw yX0_admits wsX0_admits ({ frames := 0, cells := 0, slots := 0, locals := 0 }) [.ref b, .int p0] h (fun r h' => h' = h ∧ ((cAdm sc p0 ∧ r = 1) ∨ (¬ cAdm sc p0 ∧ r = 0))) := by
  refine ctI.of (cc := cX0_admits) (maxL := 2) (ret := (some .boolean)) (by decide +kernel) rfl (Nat.le_of_ble_eq_true rfl) ?_
  intro A p e s m below meth c ls hB
  obtain ⟨F, hr, hlocks, hnm, hK, hA, hw, hl⟩ := hB
  obtain ⟨hx, hb, hml, hown, hts⟩ := id F
  have hl : lv_has ls 2 [(0, .ref b), (1, .int p0)] := hl
  have hi0 : ∀ w ∈ wsX00, w ∈ wsX0_admits := by decide +kernel
  have hl9 : Cond.fieldLink RX0 9 "Scriptorium$Book" "script" "I" ∈ wsX0_admits := by decide +kernel
  refine lv_aload_n hx hb dX0_admits_0 rfl (lv_at hl 0 rfl) ?_
  refine p_get (ci := 0) (C := RX0) (T := TX0) (N := 3) 0 F rfl hi0 hl9 (by decide) hK hw f_b rfl dX0_admits_1 ?_
  refine lv_bipush (v := 7) hx hb dX0_admits_4 (by decide) ?_
  refine lv_icmp_ne (tgt := 20) hx hb dX0_admits_6 (by decide) (fun c_6 => ?_) (fun c_6 => ?_)
  · skip
    refine lv_aload_n hx hb dX0_admits_20 rfl (lv_at hl 0 rfl) ?_
    refine p_get (ci := 0) (C := RX0) (T := TX0) (N := 3) 0 F rfl hi0 hl9 (by decide) hK hw f_b rfl dX0_admits_21 ?_
    refine lv_bipush (v := 8) hx hb dX0_admits_24 (by decide) ?_
    refine lv_icmp_ne (tgt := 34) hx hb dX0_admits_26 (by decide) (fun c_26 => ?_) (fun c_26 => ?_)
    · skip
      refine lv_iconst (v := 1) hx hb dX0_admits_34 (by decide) ?_
      refine lv_goto (tgt := 39) hx hb dX0_admits_35 (by decide) ?_
      exact ct_iret hx hb hr rfl hlocks hK hw dX0_admits_39 (Nat.le_of_ble_eq_true rfl) (Nat.le_of_ble_eq_true rfl) ⟨rfl, Or.inl ⟨⟨fun q => absurd q c_6, fun q => absurd q c_26⟩, rfl⟩⟩
    · skip
      refine lv_iload_n hx hb dX0_admits_29 rfl (lv_at hl 1 rfl) ?_
      refine lv_iconst (v := 1) hx hb dX0_admits_30 (by decide) ?_
      refine lv_icmp_eq (tgt := 38) hx hb dX0_admits_31 (by decide) (fun c_31 => ?_) (fun c_31 => ?_)
      · skip
        refine lv_iconst (v := 0) hx hb dX0_admits_38 (by decide) ?_
        exact ct_iret hx hb hr rfl hlocks hK hw dX0_admits_39 (Nat.le_of_ble_eq_true rfl) (Nat.le_of_ble_eq_true rfl) ⟨rfl, Or.inr ⟨fun h => h.2 c_26 c_31, rfl⟩⟩
      · skip
        refine lv_iconst (v := 1) hx hb dX0_admits_34 (by decide) ?_
        refine lv_goto (tgt := 39) hx hb dX0_admits_35 (by decide) ?_
        exact ct_iret hx hb hr rfl hlocks hK hw dX0_admits_39 (Nat.le_of_ble_eq_true rfl) (Nat.le_of_ble_eq_true rfl) ⟨rfl, Or.inl ⟨⟨fun q => absurd q c_6, fun _ => c_31⟩, rfl⟩⟩
  · skip
    refine lv_iload_n hx hb dX0_admits_9 rfl (lv_at hl 1 rfl) ?_
    refine lv_iconst (v := 2) hx hb dX0_admits_10 (by decide) ?_
    refine lv_icmp_eq (tgt := 18) hx hb dX0_admits_11 (by decide) (fun c_11 => ?_) (fun c_11 => ?_)
    · skip
      refine lv_iconst (v := 0) hx hb dX0_admits_18 (by decide) ?_
      exact ct_iret hx hb hr rfl hlocks hK hw dX0_admits_19 (Nat.le_of_ble_eq_true rfl) (Nat.le_of_ble_eq_true rfl) ⟨rfl, Or.inr ⟨fun h => h.1 c_6 c_11, rfl⟩⟩
    · skip
      refine lv_iconst (v := 1) hx hb dX0_admits_14 (by decide) ?_
      refine lv_goto (tgt := 19) hx hb dX0_admits_15 (by decide) ?_
      exact ct_iret hx hb hr rfl hlocks hK hw dX0_admits_19 (Nat.le_of_ble_eq_true rfl) (Nat.le_of_ble_eq_true rfl) ⟨rfl, Or.inl ⟨⟨fun _ => c_11, fun q => absurd (c_6.symm.trans q) (by decide)⟩, rfl⟩⟩

set_option maxHeartbeats 4000000 in
set_option maxRecDepth 100000 in
theorem c_X0_cut (l : Launch) (G : va_G) (Y : Nat → ClassId) (h : PH) (b v so : Nat) (sc : Int32) (v0 : Int64) (f_b : pAt h b (oBook sc v so))(hk : sc = 0 ∨ sc = 1 ∨ sc = 2 ∨ sc = 3 ∨ sc = 4 ∨ sc = 5) : ctJ l G Y pw yX0_cut wsX0_cut ({ frames := 0, cells := 0, slots := 0, locals := 0 }) [.ref b, .long v0] h (fun r h' => h' = h ∧ r = cCut sc v0) := by
  refine ctJ.of (cc := cX0_cut) (maxL := 3) (ret := (some .long)) (by decide +kernel) rfl (Nat.le_of_ble_eq_true rfl) ?_
  intro A p e s m below meth c ls hB
  obtain ⟨F, hr, hlocks, hnm, hK, hA, hw, hl⟩ := hB
  obtain ⟨hx, hb, hml, hown, hts⟩ := id F
  have hl : lv_has ls 3 [(0, .ref b), (1, .long v0)] := hl
  have hi0 : ∀ w ∈ wsX00, w ∈ wsX0_cut := by decide +kernel
  have hl9 : Cond.fieldLink RX0 9 "Scriptorium$Book" "script" "I" ∈ wsX0_cut := by decide +kernel
  refine lv_aload_n hx hb dX0_cut_0 rfl (lv_at hl 0 rfl) ?_
  refine p_get (ci := 0) (C := RX0) (T := TX0) (N := 3) 0 F rfl hi0 hl9 (by decide) hK hw f_b rfl dX0_cut_1 ?_
  rcases hk with rfl | rfl | rfl | rfl | rfl | rfl
  · skip
    refine lv_tableIn (off := 40) (tgt := 44) hx hb dX0_cut_4 (by decide) (by decide) (by decide) (by decide) ?_
    refine lv_lload_n hx hb dX0_cut_44 rfl (lv_at hl 1 rfl) ?_
    refine lv_l2i hx hb dX0_cut_45 rfl ?_
    refine lv_i2b hx hb dX0_cut_46 rfl ?_
    refine lv_i2l hx hb dX0_cut_47 rfl ?_
    exact ct_lret hx hb hr hlocks hK hw dX0_cut_48 (Nat.le_of_ble_eq_true rfl) (Nat.le_of_ble_eq_true rfl) ⟨rfl, rfl⟩
  · skip
    refine lv_tableIn (off := 45) (tgt := 49) hx hb dX0_cut_4 (by decide) (by decide) (by decide) (by decide) ?_
    refine lv_lload_n hx hb dX0_cut_49 rfl (lv_at hl 1 rfl) ?_
    refine lv_l2i hx hb dX0_cut_50 rfl ?_
    refine lv_i2c hx hb dX0_cut_51 rfl ?_
    refine lv_i2l hx hb dX0_cut_52 rfl ?_
    exact ct_lret hx hb hr hlocks hK hw dX0_cut_53 (Nat.le_of_ble_eq_true rfl) (Nat.le_of_ble_eq_true rfl) ⟨rfl, rfl⟩
  · skip
    refine lv_tableIn (off := 50) (tgt := 54) hx hb dX0_cut_4 (by decide) (by decide) (by decide) (by decide) ?_
    refine lv_lload_n hx hb dX0_cut_54 rfl (lv_at hl 1 rfl) ?_
    refine lv_l2i hx hb dX0_cut_55 rfl ?_
    refine lv_i2s hx hb dX0_cut_56 rfl ?_
    refine lv_i2l hx hb dX0_cut_57 rfl ?_
    exact ct_lret hx hb hr hlocks hK hw dX0_cut_58 (Nat.le_of_ble_eq_true rfl) (Nat.le_of_ble_eq_true rfl) ⟨rfl, rfl⟩
  · skip
    refine lv_tableIn (off := 55) (tgt := 59) hx hb dX0_cut_4 (by decide) (by decide) (by decide) (by decide) ?_
    refine lv_lload_n hx hb dX0_cut_59 rfl (lv_at hl 1 rfl) ?_
    refine lv_l2i hx hb dX0_cut_60 rfl ?_
    refine lv_i2l hx hb dX0_cut_61 rfl ?_
    exact ct_lret hx hb hr hlocks hK hw dX0_cut_62 (Nat.le_of_ble_eq_true rfl) (Nat.le_of_ble_eq_true rfl) ⟨rfl, rfl⟩
  · skip
    refine lv_tableIn (off := 63) (tgt := 67) hx hb dX0_cut_4 (by decide) (by decide) (by decide) (by decide) ?_
    refine lv_lload_n hx hb dX0_cut_67 rfl (lv_at hl 1 rfl) ?_
    exact ct_lret hx hb hr hlocks hK hw dX0_cut_68 (Nat.le_of_ble_eq_true rfl) (Nat.le_of_ble_eq_true rfl) ⟨rfl, rfl⟩
  · skip
    refine lv_tableIn (off := 59) (tgt := 63) hx hb dX0_cut_4 (by decide) (by decide) (by decide) (by decide) ?_
    refine lv_lload_n hx hb dX0_cut_63 rfl (lv_at hl 1 rfl) ?_
    refine lv_lconst (v := 1) hx hb dX0_cut_64 (by decide) ?_
    refine lv_land hx hb dX0_cut_65 ?_
    exact ct_lret hx hb hr hlocks hK hw dX0_cut_66 (Nat.le_of_ble_eq_true rfl) (Nat.le_of_ble_eq_true rfl) ⟨rfl, rfl⟩

set_option maxHeartbeats 4000000 in
set_option maxRecDepth 100000 in
theorem c_X0_paint (l : Launch) (G : va_G) (Y : Nat → ClassId) (h : PH) (b v so : Nat) (sc : Int32) (nv : Nat) (fv : Nat → Int64) (fs : Nat → Int32) (p0 p1 : Int32) (v0 : Int64) (f_b : pAt h b (oBook sc v so))(f_v : pAt h v (aJ Y nv fv))(f_s : pAt h so (aI Y nv fs))(hin : vp_in p0 nv) : ctI l G Y pw yX0_paint wsX0_paint ({ frames := 1, cells := 0, slots := 0, locals := 30 }) [.ref b, .int p0, .int p1, .long v0] h (fun r h' => (¬ cAdm sc p1 ∧ r = 0 ∧ h' = h) ∨ (cAdm sc p1 ∧ r = 1 ∧ pFr h h' [so, v] ∧ pAt h' v (aJ Y nv (vp_updL fv (cl p0) (if p1 = 0 then 0 else v0.toInt32.toInt64))) ∧ pAt h' so (aI Y nv (upd fs (cl p0) p1)))) := by
  refine ctI.of (cc := cX0_paint) (maxL := 5) (ret := (some .boolean)) (by decide +kernel) rfl (Nat.le_of_ble_eq_true rfl) ?_
  intro A p e s m below meth c ls hB
  obtain ⟨F, hr, hlocks, hnm, hK, hA, hw, hl⟩ := hB
  obtain ⟨hx, hb, hml, hown, hts⟩ := id F
  have hl : lv_has ls 5 [(0, .ref b), (1, .int p0), (2, .int p1), (3, .long v0)] := hl
  have hi0 : ∀ w ∈ wsX00, w ∈ wsX0_paint := by decide +kernel
  have hl15 : Cond.fieldLink RX0 15 "Scriptorium$Book" "values" "[J" ∈ wsX0_paint := by decide +kernel
  have hl19 : Cond.fieldLink RX0 19 "Scriptorium$Book" "sorts" "[I" ∈ wsX0_paint := by decide +kernel
  refine lv_aload_n hx hb dX0_paint_0 rfl (lv_at hl 0 rfl) ?_
  refine lv_iload_n hx hb dX0_paint_1 rfl (lv_at hl 2 rfl) ?_
  refine (c_X0_admits l G Y _ _ _ _ _ _ f_b).callV F (cwV 1 hts gX0_paint_X0_admits rfl rfl rfl (by decide +kernel) ⟨Nat.le_of_ble_eq_true rfl, Nat.le_of_ble_eq_true rfl⟩) hK hw hA (p_recv hK hw f_b rfl) rfl rfl hl.1 (Nat.le_of_ble_eq_true rfl) dX0_paint_2 ⟨Nat.le_of_ble_eq_true rfl, Nat.le_of_ble_eq_true rfl⟩ (fun r_2 h_2 H locs hp_2 hw => ?_)
  obtain ⟨eh_2, hp_2⟩ := hp_2
  rw [eh_2] at hw
  rcases hp_2 with ⟨hq_2, rfl⟩ | ⟨hq_2, rfl⟩
  · skip
    refine lv_if_ne (tgt := 10) hx hb dX0_paint_5 (by decide) (fun c_5 => ?_) (fun c_5 => ?_)
    · skip
      refine lv_aload_n hx hb dX0_paint_10 rfl (lv_at hl 0 rfl) ?_
      refine p_get (ci := 0) (C := RX0) (T := TX0) (N := 3) 2 F rfl hi0 hl19 (by decide) hK hw f_b rfl dX0_paint_11 ?_
      refine lv_iload_n hx hb dX0_paint_14 rfl (lv_at hl 1 rfl) ?_
      refine lv_iload_n hx hb dX0_paint_15 rfl (lv_at hl 2 rfl) ?_
      have f_s_0 := f_s
      refine q_stI F hK hw f_s hin dX0_paint_16 (fun h_16 H locs f_s fr_16 hw => ?_)
      have f_b := fr_16.one f_b (f_b.kinds f_s_0 (by simp))
      have f_v := fr_16.one f_v (f_v.kinds f_s_0 (by simp))
      refine lv_aload_n hx hb dX0_paint_17 rfl (lv_at hl 0 rfl) ?_
      refine p_get (ci := 0) (C := RX0) (T := TX0) (N := 3) 1 F rfl hi0 hl15 (by decide) hK hw f_b rfl dX0_paint_18 ?_
      refine lv_iload_n hx hb dX0_paint_21 rfl (lv_at hl 1 rfl) ?_
      refine lv_iload_n hx hb dX0_paint_22 rfl (lv_at hl 2 rfl) ?_
      refine lv_if_ne (tgt := 30) hx hb dX0_paint_23 (by decide) (fun c_23 => ?_) (fun c_23 => ?_)
      · skip
        refine lv_lload_n hx hb dX0_paint_30 rfl (lv_at hl 3 rfl) ?_
        refine lv_l2i hx hb dX0_paint_31 rfl ?_
        refine lv_i2l hx hb dX0_paint_32 rfl ?_
        refine lv_topl (fun v9 ev9 => ?_)
        obtain rfl : v9 = (if p1 = 0 then 0 else v0.toInt32.toInt64) := ev9.trans (by rw [if_neg c_23])
        have f_v_0 := f_v
        refine q_stJ F hK hw f_v hin dX0_paint_33 (fun h_33 H locs f_v fr_33 hw => ?_)
        have f_b := fr_33.one f_b (f_b.kinds f_v_0 (by simp))
        have f_s := fr_33.one f_s (f_s.kinds f_v_0 (by simp))
        refine lv_iconst (v := 1) hx hb dX0_paint_34 (by decide) ?_
        exact ct_iret hx hb hr rfl hlocks hK hw dX0_paint_35 (Nat.le_of_ble_eq_true rfl) (Nat.le_of_ble_eq_true rfl) (Or.inr ⟨hq_2, rfl, fr_16.trans fr_33, f_v, f_s⟩)
      · skip
        refine lv_lconst (v := 0) hx hb dX0_paint_26 (by decide) ?_
        refine lv_goto (tgt := 33) hx hb dX0_paint_27 (by decide) ?_
        refine lv_topl (fun v9 ev9 => ?_)
        obtain rfl : v9 = (if p1 = 0 then 0 else v0.toInt32.toInt64) := ev9.trans (by rw [if_pos c_23])
        have f_v_0 := f_v
        refine q_stJ F hK hw f_v hin dX0_paint_33 (fun h_33 H locs f_v fr_33 hw => ?_)
        have f_b := fr_33.one f_b (f_b.kinds f_v_0 (by simp))
        have f_s := fr_33.one f_s (f_s.kinds f_v_0 (by simp))
        refine lv_iconst (v := 1) hx hb dX0_paint_34 (by decide) ?_
        exact ct_iret hx hb hr rfl hlocks hK hw dX0_paint_35 (Nat.le_of_ble_eq_true rfl) (Nat.le_of_ble_eq_true rfl) (Or.inr ⟨hq_2, rfl, fr_16.trans fr_33, f_v, f_s⟩)
    · exact absurd c_5 (by decide)
  · skip
    refine lv_if_ne (tgt := 10) hx hb dX0_paint_5 (by decide) (fun c_5 => ?_) (fun c_5 => ?_)
    · exact absurd rfl c_5
    · skip
      refine lv_iconst (v := 0) hx hb dX0_paint_8 (by decide) ?_
      exact ct_iret hx hb hr rfl hlocks hK hw dX0_paint_9 (Nat.le_of_ble_eq_true rfl) (Nat.le_of_ble_eq_true rfl) (Or.inl ⟨hq_2, rfl, rfl⟩)

set_option maxHeartbeats 4000000 in
set_option maxRecDepth 100000 in
theorem c_X0_signAt (l : Launch) (G : va_G) (Y : Nat → ClassId) (h : PH) (b v so : Nat) (sc : Int32) (nv : Nat) (fv : Nat → Int64) (fs : Nat → Int32) (p0 : Int32) (f_b : pAt h b (oBook sc v so))(f_v : pAt h v (aJ Y nv fv))(f_s : pAt h so (aI Y nv fs))(hin : vp_in p0 nv) : ctJ l G Y pw yX0_signAt wsX0_signAt ({ frames := 1, cells := 0, slots := 0, locals := 30 }) [.ref b, .int p0] h (fun r h' => h' = h ∧ r = cSgn sc (fv (cl p0)) (fs (cl p0))) := by
  refine ctJ.of (cc := cX0_signAt) (maxL := 2) (ret := (some .long)) (by decide +kernel) rfl (Nat.le_of_ble_eq_true rfl) ?_
  intro A p e s m below meth c ls hB
  obtain ⟨F, hr, hlocks, hnm, hK, hA, hw, hl⟩ := hB
  obtain ⟨hx, hb, hml, hown, hts⟩ := id F
  have hl : lv_has ls 2 [(0, .ref b), (1, .int p0)] := hl
  have hi0 : ∀ w ∈ wsX00, w ∈ wsX0_signAt := by decide +kernel
  have hl15 : Cond.fieldLink RX0 15 "Scriptorium$Book" "values" "[J" ∈ wsX0_signAt := by decide +kernel
  have hl19 : Cond.fieldLink RX0 19 "Scriptorium$Book" "sorts" "[I" ∈ wsX0_signAt := by decide +kernel
  refine lv_aload_n hx hb dX0_signAt_0 rfl (lv_at hl 0 rfl) ?_
  refine (c_X0_hasPictures l G Y _ _ _ _ _ f_b).callV F (cwV 0 hts gX0_signAt_X0_hasPictures rfl rfl rfl (by decide +kernel) ⟨Nat.le_of_ble_eq_true rfl, Nat.le_of_ble_eq_true rfl⟩) hK hw hA (p_recv hK hw f_b rfl) rfl rfl hl.1 (Nat.le_of_ble_eq_true rfl) dX0_signAt_1 ⟨Nat.le_of_ble_eq_true rfl, Nat.le_of_ble_eq_true rfl⟩ (fun r_1 h_1 H locs hp_1 hw => ?_)
  obtain ⟨eh_1, hp_1⟩ := hp_1
  rw [eh_1] at hw
  rcases hp_1 with ⟨hq_1, rfl⟩ | ⟨hq_1, rfl⟩
  · skip
    refine lv_if_eq (tgt := 28) hx hb dX0_signAt_4 (by decide) (fun c_4 => ?_) (fun c_4 => ?_)
    · exact absurd c_4 (by decide)
    · skip
      refine lv_ldc2 hx hb hown (hts (.constantLong RX0 34 (4)) (by decide +kernel)) dX0_signAt_7 ?_
      refine lv_aload_n hx hb dX0_signAt_10 rfl (lv_at hl 0 rfl) ?_
      refine p_get (ci := 0) (C := RX0) (T := TX0) (N := 3) 1 F rfl hi0 hl15 (by decide) hK hw f_b rfl dX0_signAt_11 ?_
      refine lv_iload_n hx hb dX0_signAt_14 rfl (lv_at hl 1 rfl) ?_
      refine p_ldJ F hK hw f_v hin dX0_signAt_15 ?_
      refine lv_lmul hx hb dX0_signAt_16 ?_
      refine lv_aload_n hx hb dX0_signAt_17 rfl (lv_at hl 0 rfl) ?_
      refine p_get (ci := 0) (C := RX0) (T := TX0) (N := 3) 2 F rfl hi0 hl19 (by decide) hK hw f_b rfl dX0_signAt_18 ?_
      refine lv_iload_n hx hb dX0_signAt_21 rfl (lv_at hl 1 rfl) ?_
      refine p_ildI F hK hw f_s hin dX0_signAt_22 ?_
      refine lv_i2l hx hb dX0_signAt_23 rfl ?_
      refine lv_ladd hx hb dX0_signAt_24 ?_
      refine lv_goto (tgt := 34) hx hb dX0_signAt_25 (by decide) ?_
      exact ct_lret hx hb hr hlocks hK hw dX0_signAt_34 (Nat.le_of_ble_eq_true rfl) (Nat.le_of_ble_eq_true rfl) ⟨rfl, by unfold cSgn; rw [if_pos hq_1]⟩
  · skip
    refine lv_if_eq (tgt := 28) hx hb dX0_signAt_4 (by decide) (fun c_4 => ?_) (fun c_4 => ?_)
    · skip
      refine lv_aload_n hx hb dX0_signAt_28 rfl (lv_at hl 0 rfl) ?_
      refine p_get (ci := 0) (C := RX0) (T := TX0) (N := 3) 1 F rfl hi0 hl15 (by decide) hK hw f_b rfl dX0_signAt_29 ?_
      refine lv_iload_n hx hb dX0_signAt_32 rfl (lv_at hl 1 rfl) ?_
      refine p_ldJ F hK hw f_v hin dX0_signAt_33 ?_
      exact ct_lret hx hb hr hlocks hK hw dX0_signAt_34 (Nat.le_of_ble_eq_true rfl) (Nat.le_of_ble_eq_true rfl) ⟨rfl, by unfold cSgn; rw [if_neg hq_1]⟩
    · exact absurd rfl c_4

set_option maxHeartbeats 4000000 in
set_option maxRecDepth 100000 in
theorem c_X0_fittingOf (l : Launch) (G : va_G) (Y : Nat → ClassId) (h : PH) (b v so : Nat) (sc : Int32) (o v2 so2 : Nat) (sc2 : Int32) (n2 : Nat) (gs : Nat → Int32) (ii nn : Nat) (f_b : pAt h b (oBook sc v so))(f_o : pAt h o (oBook sc2 v2 so2)) (f_os : pAt h so2 (aI Y n2 gs)) (hb1 : ii + nn ≤ n2) (hb2 : n2 ≤ 40) : ctI l G Y pw yX0_fittingOf wsX0_fittingOf ({ frames := 1, cells := 0, slots := 0, locals := 30 }) [.ref b, .ref o, .int (nI ii), .int (nI nn)] h (fun r h' => h' = h ∧ ∃ st, cStop sc gs ii nn st ∧ r = nI st) := by
  refine ctI.of (cc := cX0_fittingOf) (maxL := 5) (ret := (some .int)) (by decide +kernel) rfl (Nat.le_of_ble_eq_true rfl) ?_
  intro A p e s m below meth c ls hB
  obtain ⟨F, hr, hlocks, hnm, hK, hA, hw, hl⟩ := hB
  obtain ⟨hx, hb, hml, hown, hts⟩ := id F
  have hl : lv_has ls 5 [(0, .ref b), (1, .ref o), (2, .int (nI ii)), (3, .int (nI nn))] := hl
  have hi0 : ∀ w ∈ wsX00, w ∈ wsX0_fittingOf := by decide +kernel
  have hl19 : Cond.fieldLink RX0 19 "Scriptorium$Book" "sorts" "[I" ∈ wsX0_fittingOf := by decide +kernel
  refine lv_iconst (v := 0) hx hb dX0_fittingOf_0 (by decide) ?_
  refine lv_istore (lv' := [(4, .int _), (0, .ref _), (1, .ref _), (2, .int _), (3, .int _)]) hx hb dX0_fittingOf_1 hl (by decide) rfl (fun ls hl => ?_)
  refine W_loop (σ := Nat) 3 (fun n (t : Nat) H locs ls => n = nn - t ∧ t ≤ nn ∧ (∀ k, k < t → cAdm sc (gs (ii + k))) ∧ wW G A s.heap (pw h) H locs ∧ lv_has ls 5 [(4, .int (nI t)), (0, .ref b), (1, .ref o), (2, .int (nI ii)), (3, .int (nI nn))]) ?_ (n := nn) (x := 0) ⟨rfl, by omega, lt_0, hw, hl⟩
  intro n t H locs ls hI ih
  obtain ⟨hn, ht, hall, hw, hl⟩ := hI
  refine lv_iload hx hb dX0_fittingOf_3 (lv_at hl 0 rfl) ?_
  refine lv_iload_n hx hb dX0_fittingOf_5 rfl (lv_at hl 4 rfl) ?_
  refine lv_icmp_ge (tgt := 34) hx hb dX0_fittingOf_6 (by decide) (fun c_6 => ?_) (fun c_6 => ?_)
  · skip
    have htn : t = nn := by
      have := le_of_c (by omega) (by omega) c_6
      omega
    subst htn
    refine lv_iload_n hx hb dX0_fittingOf_34 rfl (lv_at hl 4 rfl) ?_
    exact ct_iret hx hb hr (vp_nar_int _) hlocks hK hw dX0_fittingOf_35 (Nat.le_of_ble_eq_true rfl) (Nat.le_of_ble_eq_true rfl) ⟨rfl, t, ⟨Nat.le_refl _, hall, fun q => absurd q (Nat.lt_irrefl _)⟩, rfl⟩
  · skip
    have htn : t < nn := lt_of_c (by omega) (by omega) c_6
    refine lv_aload_n hx hb dX0_fittingOf_9 rfl (lv_at hl 1 rfl) ?_
    refine lv_aload_n hx hb dX0_fittingOf_10 rfl (lv_at hl 2 rfl) ?_
    refine p_get (ci := 0) (C := RX0) (T := TX0) (N := 3) 2 F rfl hi0 hl19 (by decide) hK hw f_o rfl dX0_fittingOf_11 ?_
    refine lv_iload_n hx hb dX0_fittingOf_14 rfl (lv_at hl 3 rfl) ?_
    refine lv_iload hx hb dX0_fittingOf_15 (lv_at hl 0 rfl) ?_
    refine lv_iadd hx hb dX0_fittingOf_17 ?_
    refine p_ildI F hK hw f_os (by rw [nI_add]; exact vp_in_nI (by omega) (by omega)) dX0_fittingOf_18 ?_
    rw [nI_add, cl_nI (show ii + t < 2 ^ 31 by omega)]
    refine (c_X0_admits l G Y _ _ _ _ _ _ f_b).callV F (cwV 1 hts gX0_fittingOf_X0_admits rfl rfl rfl (by decide +kernel) ⟨Nat.le_of_ble_eq_true rfl, Nat.le_of_ble_eq_true rfl⟩) hK hw hA (p_recv hK hw f_b rfl) rfl rfl hl.1 (Nat.le_of_ble_eq_true rfl) dX0_fittingOf_19 ⟨Nat.le_of_ble_eq_true rfl, Nat.le_of_ble_eq_true rfl⟩ (fun r_19 h_19 H locs hp_19 hw => ?_)
    obtain ⟨eh_19, hp_19⟩ := hp_19
    rw [eh_19] at hw
    rcases hp_19 with ⟨hq_19, rfl⟩ | ⟨hq_19, rfl⟩
    · skip
      refine lv_if_ne (tgt := 28) hx hb dX0_fittingOf_22 (by decide) (fun c_22 => ?_) (fun c_22 => ?_)
      · skip
        refine lv_iinc (lv' := [(4, .int _), (0, .ref _), (1, .ref _), (2, .int _), (3, .int _)]) hx hb dX0_fittingOf_28 hl (k := 0) rfl rfl (by decide) rfl (fun ls hl => ?_)
        refine lv_goto (tgt := 3) hx hb dX0_fittingOf_31 (by decide) ?_
        exact ih _ (t + 1) _ _ _ (by omega) ⟨rfl, by omega, lt_s hall hq_19, hw, by rw [nI_succ]; exact hl⟩
      · exact absurd c_22 (by decide)
    · skip
      refine lv_if_ne (tgt := 28) hx hb dX0_fittingOf_22 (by decide) (fun c_22 => ?_) (fun c_22 => ?_)
      · exact absurd rfl c_22
      · skip
        refine lv_iload hx hb dX0_fittingOf_25 (lv_at hl 0 rfl) ?_
        exact ct_iret hx hb hr (vp_nar_int _) hlocks hK hw dX0_fittingOf_27 (Nat.le_of_ble_eq_true rfl) (Nat.le_of_ble_eq_true rfl) ⟨rfl, t, ⟨by omega, hall, fun _ => hq_19⟩, rfl⟩

set_option maxHeartbeats 4000000 in
set_option maxRecDepth 100000 in
theorem c_X0_take (l : Launch) (G : va_G) (Y : Nat → ClassId) (h : PH) (b v so : Nat) (sc : Int32) (nv : Nat) (fv : Nat → Int64) (fs : Nat → Int32) (o v2 so2 : Nat) (sc2 : Int32) (n2 : Nat) (gv : Nat → Int64) (gs : Nat → Int32) (ii jj nn : Nat) (f_b : pAt h b (oBook sc v so))(f_v : pAt h v (aJ Y nv fv))(f_s : pAt h so (aI Y nv fs))(f_o : pAt h o (oBook sc2 v2 so2)) (f_ov : pAt h v2 (aJ Y n2 gv)) (f_os : pAt h so2 (aI Y n2 gs)) (hb1 : ii + nn ≤ n2) (hb2 : jj + nn ≤ nv) (hb3 : n2 ≤ 40) (hb4 : nv ≤ 40) : ctV l G Y pw yX0_take wsX0_take ({ frames := 1, cells := 0, slots := 0, locals := 60 }) [.ref b, .ref o, .int (nI ii), .int (nI jj), .int (nI nn)] h (fun h' => pFr h h' [v, so] ∧ pAt h' v (aJ Y nv (va_cpy gv fv ii jj nn)) ∧ pAt h' so (aI Y nv (va_cpy gs fs ii jj nn))) := by
  refine ctV.of (cc := cX0_take) (maxL := 5) (ret := none) (by decide +kernel) rfl (Nat.le_of_ble_eq_true rfl) ?_
  intro A p e s m below meth c ls hB
  obtain ⟨F, hr, hlocks, hnm, hK, hA, hw, hl⟩ := hB
  obtain ⟨hx, hb, hml, hown, hts⟩ := id F
  have hl : lv_has ls 5 [(0, .ref b), (1, .ref o), (2, .int (nI ii)), (3, .int (nI jj)), (4, .int (nI nn))] := hl
  have hi0 : ∀ w ∈ wsX00, w ∈ wsX0_take := by decide +kernel
  have hl15 : Cond.fieldLink RX0 15 "Scriptorium$Book" "values" "[J" ∈ wsX0_take := by decide +kernel
  have hl19 : Cond.fieldLink RX0 19 "Scriptorium$Book" "sorts" "[I" ∈ wsX0_take := by decide +kernel
  refine lv_aload_n hx hb dX0_take_0 rfl (lv_at hl 1 rfl) ?_
  refine p_get (ci := 0) (C := RX0) (T := TX0) (N := 3) 1 F rfl hi0 hl15 (by decide) hK hw f_o rfl dX0_take_1 ?_
  refine lv_iload_n hx hb dX0_take_4 rfl (lv_at hl 2 rfl) ?_
  refine lv_aload_n hx hb dX0_take_5 rfl (lv_at hl 0 rfl) ?_
  refine p_get (ci := 0) (C := RX0) (T := TX0) (N := 3) 1 F rfl hi0 hl15 (by decide) hK hw f_b rfl dX0_take_6 ?_
  refine lv_iload_n hx hb dX0_take_9 rfl (lv_at hl 3 rfl) ?_
  refine lv_iload hx hb dX0_take_10 (lv_at hl 4 rfl) ?_
  have f_v_0 := f_v
  refine q_cpJ F hl.1 (by decide +kernel) (by decide +kernel) (by decide +kernel) (by decide +kernel) hK hw f_ov f_v (nI_pos (by omega)) (nI_pos (by omega)) (nI_pos (by omega)) (by rw [cl_nI (by omega), cl_nI (by omega)]; omega) (by rw [cl_nI (by omega), cl_nI (by omega)]; omega) (Nat.le_of_ble_eq_true rfl) (by decide +kernel) dX0_take_12 (fun h_12 H locs f_v fr_12 hw => ?_)
  rw [cl_nI (show ii < 2 ^ 31 by omega), cl_nI (show jj < 2 ^ 31 by omega), cl_nI (show nn < 2 ^ 31 by omega)] at f_v
  have f_b := fr_12.one f_b (f_b.kinds f_v_0 (by simp))
  have f_s := fr_12.one f_s (f_s.kinds f_v_0 (by simp))
  have f_o := fr_12.one f_o (f_o.kinds f_v_0 (by simp))
  have f_os := fr_12.one f_os (f_os.kinds f_v_0 (by simp))
  refine lv_aload_n hx hb dX0_take_15 rfl (lv_at hl 1 rfl) ?_
  refine p_get (ci := 0) (C := RX0) (T := TX0) (N := 3) 2 F rfl hi0 hl19 (by decide) hK hw f_o rfl dX0_take_16 ?_
  refine lv_iload_n hx hb dX0_take_19 rfl (lv_at hl 2 rfl) ?_
  refine lv_aload_n hx hb dX0_take_20 rfl (lv_at hl 0 rfl) ?_
  refine p_get (ci := 0) (C := RX0) (T := TX0) (N := 3) 2 F rfl hi0 hl19 (by decide) hK hw f_b rfl dX0_take_21 ?_
  refine lv_iload_n hx hb dX0_take_24 rfl (lv_at hl 3 rfl) ?_
  refine lv_iload hx hb dX0_take_25 (lv_at hl 4 rfl) ?_
  have f_s_0 := f_s
  refine q_cpI F hl.1 (by decide +kernel) (by decide +kernel) (by decide +kernel) (by decide +kernel) hK hw f_os f_s (nI_pos (by omega)) (nI_pos (by omega)) (nI_pos (by omega)) (by rw [cl_nI (by omega), cl_nI (by omega)]; omega) (by rw [cl_nI (by omega), cl_nI (by omega)]; omega) (Nat.le_of_ble_eq_true rfl) (by decide +kernel) dX0_take_27 (fun h_27 H locs f_s fr_27 hw => ?_)
  rw [cl_nI (show ii < 2 ^ 31 by omega), cl_nI (show jj < 2 ^ 31 by omega), cl_nI (show nn < 2 ^ 31 by omega)] at f_s
  have f_b := fr_27.one f_b (f_b.kinds f_s_0 (by simp))
  have f_v := fr_27.one f_v (f_v.kinds f_s_0 (by simp))
  have f_o := fr_27.one f_o (f_o.kinds f_s_0 (by simp))
  exact ct_vret hx hb hr hlocks hK hw dX0_take_30 (Nat.le_of_ble_eq_true rfl) (Nat.le_of_ble_eq_true rfl) ⟨fr_12.trans fr_27, f_v, f_s⟩

set_option maxHeartbeats 4000000 in
set_option maxRecDepth 100000 in
theorem c_J9_floorMod_7cf53 (l : Launch) (G : va_G) (Y : Nat → ClassId)  {S : Type} (wf : S → va_W) (u : S) (p0 p1 : Int32) (hy : ¬ p1 = 0) : ctI l G Y wf yJ9_floorMod_7cf53 wsJ9_floorMod_7cf53 ({ frames := 0, cells := 0, slots := 0, locals := 0 }) [.int p0, .int p1] u (fun r u' => u' = u ∧ r = jFM p0 p1) := by
  refine ctI.ofF (cc := cJ9_floorMod_7cf53) (maxL := 3) (ret := (some .int)) (by decide +kernel) rfl (Nat.le_of_ble_eq_true rfl) ?_
  intro A p e s m below meth c ls hB
  obtain ⟨F, hr, hlocks, hnm, hK, hA, hw, hl⟩ := hB
  obtain ⟨hx, hb, hml, hown, hts⟩ := id F
  have hl : lv_has ls 3 [(0, .int p0), (1, .int p1)] := hl
  refine lv_iload_n hx hb dJ9_floorMod_7cf53_0 rfl (lv_at hl 0 rfl) ?_
  refine lv_iload_n hx hb dJ9_floorMod_7cf53_1 rfl (lv_at hl 1 rfl) ?_
  refine lv_irem hx hb dJ9_floorMod_7cf53_2 hy ?_
  refine lv_istore_n (lv' := [(2, .int _), (0, .int _), (1, .int _)]) hx hb dJ9_floorMod_7cf53_3 rfl hl (by decide) rfl (fun ls hl => ?_)
  refine lv_iload_n hx hb dJ9_floorMod_7cf53_4 rfl (lv_at hl 1 rfl) ?_
  refine lv_iload_n hx hb dJ9_floorMod_7cf53_5 rfl (lv_at hl 2 rfl) ?_
  refine lv_ixor hx hb dJ9_floorMod_7cf53_6 ?_
  refine lv_if_ge (tgt := 18) hx hb dJ9_floorMod_7cf53_7 (by decide) (fun c_7 => ?_) (fun c_7 => ?_)
  · skip
    refine lv_iload_n hx hb dJ9_floorMod_7cf53_18 rfl (lv_at hl 0 rfl) ?_
    exact ct_iret hx hb hr (vp_nar_int _) hlocks hK hw dJ9_floorMod_7cf53_19 (Nat.le_of_ble_eq_true rfl) (Nat.le_of_ble_eq_true rfl) ⟨rfl, by unfold jFM; rw [if_pos c_7]⟩
  · skip
    refine lv_iload_n hx hb dJ9_floorMod_7cf53_10 rfl (lv_at hl 0 rfl) ?_
    refine lv_if_eq (tgt := 18) hx hb dJ9_floorMod_7cf53_11 (by decide) (fun c_11 => ?_) (fun c_11 => ?_)
    · skip
      refine lv_iload_n hx hb dJ9_floorMod_7cf53_18 rfl (lv_at hl 0 rfl) ?_
      exact ct_iret hx hb hr (vp_nar_int _) hlocks hK hw dJ9_floorMod_7cf53_19 (Nat.le_of_ble_eq_true rfl) (Nat.le_of_ble_eq_true rfl) ⟨rfl, by unfold jFM; rw [if_neg c_7, if_pos c_11]⟩
    · skip
      refine lv_iload_n hx hb dJ9_floorMod_7cf53_14 rfl (lv_at hl 0 rfl) ?_
      refine lv_iload_n hx hb dJ9_floorMod_7cf53_15 rfl (lv_at hl 2 rfl) ?_
      refine lv_iadd hx hb dJ9_floorMod_7cf53_16 ?_
      exact ct_iret hx hb hr (vp_nar_int _) hlocks hK hw dJ9_floorMod_7cf53_17 (Nat.le_of_ble_eq_true rfl) (Nat.le_of_ble_eq_true rfl) ⟨rfl, by unfold jFM; rw [if_neg c_7, if_neg c_11]⟩

set_option maxHeartbeats 4000000 in
set_option maxRecDepth 100000 in
theorem c_X1_has (l : Launch) (G : va_G) (Y : Nat → ClassId) (h : PH) (q a1 a2 a3 a4 : Nat) (nx he : Int32) (p0 : Int32) (f_q : pAt h q (oChr a1 a2 a3 a4 nx he)) : ctI l G Y pw yX1_has wsX1_has ({ frames := 0, cells := 0, slots := 0, locals := 0 }) [.ref q, .int p0] h (fun r h' => h' = h ∧ (((¬ p0 < 0 ∧ ¬ he ≤ p0) ∧ r = 1) ∨ (¬ (¬ p0 < 0 ∧ ¬ he ≤ p0) ∧ r = 0))) := by
  refine ctI.of (cc := cX1_has) (maxL := 2) (ret := (some .boolean)) (by decide +kernel) rfl (Nat.le_of_ble_eq_true rfl) ?_
  intro A p e s m below meth c ls hB
  obtain ⟨F, hr, hlocks, hnm, hK, hA, hw, hl⟩ := hB
  obtain ⟨hx, hb, hml, hown, hts⟩ := id F
  have hl : lv_has ls 2 [(0, .ref q), (1, .int p0)] := hl
  have hi1 : ∀ w ∈ wsX10, w ∈ wsX1_has := by decide +kernel
  have hl24 : Cond.fieldLink RX1 24 "Scriptorium$Chronicle" "held" "I" ∈ wsX1_has := by decide +kernel
  refine lv_iload_n hx hb dX1_has_0 rfl (lv_at hl 1 rfl) ?_
  refine lv_if_lt (tgt := 16) hx hb dX1_has_1 (by decide) (fun c_1 => ?_) (fun c_1 => ?_)
  · skip
    refine lv_iconst (v := 0) hx hb dX1_has_16 (by decide) ?_
    exact ct_iret hx hb hr rfl hlocks hK hw dX1_has_17 (Nat.le_of_ble_eq_true rfl) (Nat.le_of_ble_eq_true rfl) ⟨rfl, Or.inr ⟨fun h => h.1 c_1, rfl⟩⟩
  · skip
    refine lv_iload_n hx hb dX1_has_4 rfl (lv_at hl 1 rfl) ?_
    refine lv_aload_n hx hb dX1_has_5 rfl (lv_at hl 0 rfl) ?_
    refine p_get (ci := 1) (C := RX1) (T := TX1) (N := 6) 5 F rfl hi1 hl24 (by decide) hK hw f_q rfl dX1_has_6 ?_
    refine lv_icmp_ge (tgt := 16) hx hb dX1_has_9 (by decide) (fun c_9 => ?_) (fun c_9 => ?_)
    · skip
      refine lv_iconst (v := 0) hx hb dX1_has_16 (by decide) ?_
      exact ct_iret hx hb hr rfl hlocks hK hw dX1_has_17 (Nat.le_of_ble_eq_true rfl) (Nat.le_of_ble_eq_true rfl) ⟨rfl, Or.inr ⟨fun h => h.2 c_9, rfl⟩⟩
    · skip
      refine lv_iconst (v := 1) hx hb dX1_has_12 (by decide) ?_
      refine lv_goto (tgt := 17) hx hb dX1_has_13 (by decide) ?_
      exact ct_iret hx hb hr rfl hlocks hK hw dX1_has_17 (Nat.le_of_ble_eq_true rfl) (Nat.le_of_ble_eq_true rfl) ⟨rfl, Or.inl ⟨⟨c_1, c_9⟩, rfl⟩⟩

set_option maxHeartbeats 4000000 in
set_option maxRecDepth 100000 in
theorem c_X1_rowOf (l : Launch) (G : va_G) (Y : Nat → ClassId) (h : PH) (q a1 a2 a3 a4 : Nat) (nx he : Int32) (p0 : Int32) (f_q : pAt h q (oChr a1 a2 a3 a4 nx he)) : ctI l G Y pw yX1_rowOf wsX1_rowOf ({ frames := 1, cells := 0, slots := 0, locals := 30 }) [.ref q, .int p0] h (fun r h' => h' = h ∧ r = jFM (nx - 1 - p0) 16) := by
  refine ctI.of (cc := cX1_rowOf) (maxL := 2) (ret := (some .int)) (by decide +kernel) rfl (Nat.le_of_ble_eq_true rfl) ?_
  intro A p e s m below meth c ls hB
  obtain ⟨F, hr, hlocks, hnm, hK, hA, hw, hl⟩ := hB
  obtain ⟨hx, hb, hml, hown, hts⟩ := id F
  have hl : lv_has ls 2 [(0, .ref q), (1, .int p0)] := hl
  have hi1 : ∀ w ∈ wsX10, w ∈ wsX1_rowOf := by decide +kernel
  have hl28 : Cond.fieldLink RX1 28 "Scriptorium$Chronicle" "next" "I" ∈ wsX1_rowOf := by decide +kernel
  refine lv_aload_n hx hb dX1_rowOf_0 rfl (lv_at hl 0 rfl) ?_
  refine p_get (ci := 1) (C := RX1) (T := TX1) (N := 6) 4 F rfl hi1 hl28 (by decide) hK hw f_q rfl dX1_rowOf_1 ?_
  refine lv_iconst (v := 1) hx hb dX1_rowOf_4 (by decide) ?_
  refine lv_isub hx hb dX1_rowOf_5 ?_
  refine lv_iload_n hx hb dX1_rowOf_6 rfl (lv_at hl 1 rfl) ?_
  refine lv_isub hx hb dX1_rowOf_7 ?_
  refine lv_bipush (v := 16) hx hb dX1_rowOf_8 (by decide) ?_
  refine (c_J9_floorMod_7cf53 l G Y pw _ _ _ (by decide)).callS F (va_cwS 2 hts gX1_rowOf_J9_floorMod_7cf53 rfl rfl rfl (by decide +kernel) ⟨Nat.le_of_ble_eq_true rfl, Nat.le_of_ble_eq_true rfl⟩) hK hw hA rfl rfl hl.1 (Nat.le_of_ble_eq_true rfl) dX1_rowOf_10 ⟨Nat.le_of_ble_eq_true rfl, Nat.le_of_ble_eq_true rfl⟩ (fun r_10 h_10 H locs hp_10 hw => ?_)
  obtain ⟨eh_10, rfl⟩ := hp_10
  rw [eh_10] at hw
  exact ct_iret hx hb hr (vp_nar_int _) hlocks hK hw dX1_rowOf_13 (Nat.le_of_ble_eq_true rfl) (Nat.le_of_ble_eq_true rfl) ⟨rfl, rfl⟩

set_option maxHeartbeats 4000000 in
set_option maxRecDepth 100000 in
theorem c_X1_add (l : Launch) (G : va_G) (Y : Nat → ClassId) (h : PH) (q a1 a2 a3 a4 : Nat) (xx hh : Nat) (f1 f2 f3 f4 : Nat → Int32) (p9 : Nat) (ps pa pi pb pj pn : Int32) (r9 : Int32) (f_q : pAt h q (oChr a1 a2 a3 a4 (nI xx) (nI hh))) (f_a1 : pAt h a1 (aI Y 16 f1)) (f_a2 : pAt h a2 (aI Y 16 f2)) (f_a3 : pAt h a3 (aI Y 16 f3)) (f_a4 : pAt h a4 (aI Y 16 f4)) (f_p9 : pAt h p9 (oPas ps pa pi pb pj pn)) (hxx : xx < 16) (hhh : hh ≤ 16) (n01 : a1 ≠ a2) (n02 : a1 ≠ a3) (n03 : a1 ≠ a4) (n12 : a2 ≠ a3) (n13 : a2 ≠ a4) (n23 : a3 ≠ a4) : ctV l G Y pw yX1_add wsX1_add ({ frames := 1, cells := 0, slots := 0, locals := 60 }) [.ref q, .ref p9, .int r9] h (fun h' => pFr h h' [a1, a2, a3, a4, q] ∧ pAt h' a1 (aI Y 16 (upd f1 xx ps)) ∧ pAt h' a2 (aI Y 16 (upd f2 xx pa)) ∧ pAt h' a3 (aI Y 16 (upd f3 xx pb)) ∧ pAt h' a4 (aI Y 16 (upd f4 xx r9)) ∧ pAt h' q (oChr a1 a2 a3 a4 (nI ((xx + 1) % 16)) (nI (if hh + 1 < 16 then hh + 1 else 16)))) := by
  refine ctV.of (cc := cX1_add) (maxL := 3) (ret := none) (by decide +kernel) rfl (Nat.le_of_ble_eq_true rfl) ?_
  intro A p e s m below meth c ls hB
  obtain ⟨F, hr, hlocks, hnm, hK, hA, hw, hl⟩ := hB
  obtain ⟨hx, hb, hml, hown, hts⟩ := id F
  have hl : lv_has ls 3 [(0, .ref q), (1, .ref p9), (2, .int r9)] := hl
  have hi1 : ∀ w ∈ wsX10, w ∈ wsX1_add := by decide +kernel
  have hi2 : ∀ w ∈ wsX20, w ∈ wsX1_add := by decide +kernel
  have hl9 : Cond.fieldLink RX1 9 "Scriptorium$Chronicle" "scribeNumbers" "[I" ∈ wsX1_add := by decide +kernel
  have hl15 : Cond.fieldLink RX1 15 "Scriptorium$Chronicle" "sources" "[I" ∈ wsX1_add := by decide +kernel
  have hl18 : Cond.fieldLink RX1 18 "Scriptorium$Chronicle" "targets" "[I" ∈ wsX1_add := by decide +kernel
  have hl21 : Cond.fieldLink RX1 21 "Scriptorium$Chronicle" "answers" "[I" ∈ wsX1_add := by decide +kernel
  have hl24 : Cond.fieldLink RX1 24 "Scriptorium$Chronicle" "held" "I" ∈ wsX1_add := by decide +kernel
  have hl28 : Cond.fieldLink RX1 28 "Scriptorium$Chronicle" "next" "I" ∈ wsX1_add := by decide +kernel
  have hl37 : Cond.fieldLink RX1 37 "Scriptorium$Passage" "scribe" "I" ∈ wsX1_add := by decide +kernel
  have hl42 : Cond.fieldLink RX1 42 "Scriptorium$Passage" "a" "I" ∈ wsX1_add := by decide +kernel
  have hl45 : Cond.fieldLink RX1 45 "Scriptorium$Passage" "b" "I" ∈ wsX1_add := by decide +kernel
  refine lv_aload_n hx hb dX1_add_0 rfl (lv_at hl 0 rfl) ?_
  refine p_get (ci := 1) (C := RX1) (T := TX1) (N := 6) 0 F rfl hi1 hl9 (by decide) hK hw f_q rfl dX1_add_1 ?_
  refine lv_aload_n hx hb dX1_add_4 rfl (lv_at hl 0 rfl) ?_
  refine p_get (ci := 1) (C := RX1) (T := TX1) (N := 6) 4 F rfl hi1 hl28 (by decide) hK hw f_q rfl dX1_add_5 ?_
  refine lv_aload_n hx hb dX1_add_8 rfl (lv_at hl 1 rfl) ?_
  refine p_get (ci := 2) (C := RX2) (T := TX2) (N := 6) 0 F rfl hi2 hl37 (by decide) hK hw f_p9 rfl dX1_add_9 ?_
  have f_a1_0 := f_a1
  refine q_stI F hK hw f_a1 (vp_in_nI hxx (by decide)) dX1_add_12 (fun h_12 H locs f_a1 fr_12 hw => ?_)
  have f_q := fr_12.one f_q (f_q.kinds f_a1_0 (by simp))
  have f_a2 := fr_12.one f_a2 n01.symm
  have f_a3 := fr_12.one f_a3 n02.symm
  have f_a4 := fr_12.one f_a4 n03.symm
  have f_p9 := fr_12.one f_p9 (f_p9.kinds f_a1_0 (by simp))
  refine lv_aload_n hx hb dX1_add_13 rfl (lv_at hl 0 rfl) ?_
  refine p_get (ci := 1) (C := RX1) (T := TX1) (N := 6) 1 F rfl hi1 hl15 (by decide) hK hw f_q rfl dX1_add_14 ?_
  refine lv_aload_n hx hb dX1_add_17 rfl (lv_at hl 0 rfl) ?_
  refine p_get (ci := 1) (C := RX1) (T := TX1) (N := 6) 4 F rfl hi1 hl28 (by decide) hK hw f_q rfl dX1_add_18 ?_
  refine lv_aload_n hx hb dX1_add_21 rfl (lv_at hl 1 rfl) ?_
  refine p_get (ci := 2) (C := RX2) (T := TX2) (N := 6) 1 F rfl hi2 hl42 (by decide) hK hw f_p9 rfl dX1_add_22 ?_
  have f_a2_0 := f_a2
  refine q_stI F hK hw f_a2 (vp_in_nI hxx (by decide)) dX1_add_25 (fun h_25 H locs f_a2 fr_25 hw => ?_)
  have f_q := fr_25.one f_q (f_q.kinds f_a2_0 (by simp))
  have f_a1 := fr_25.one f_a1 n01
  have f_a3 := fr_25.one f_a3 n12.symm
  have f_a4 := fr_25.one f_a4 n13.symm
  have f_p9 := fr_25.one f_p9 (f_p9.kinds f_a2_0 (by simp))
  refine lv_aload_n hx hb dX1_add_26 rfl (lv_at hl 0 rfl) ?_
  refine p_get (ci := 1) (C := RX1) (T := TX1) (N := 6) 2 F rfl hi1 hl18 (by decide) hK hw f_q rfl dX1_add_27 ?_
  refine lv_aload_n hx hb dX1_add_30 rfl (lv_at hl 0 rfl) ?_
  refine p_get (ci := 1) (C := RX1) (T := TX1) (N := 6) 4 F rfl hi1 hl28 (by decide) hK hw f_q rfl dX1_add_31 ?_
  refine lv_aload_n hx hb dX1_add_34 rfl (lv_at hl 1 rfl) ?_
  refine p_get (ci := 2) (C := RX2) (T := TX2) (N := 6) 3 F rfl hi2 hl45 (by decide) hK hw f_p9 rfl dX1_add_35 ?_
  have f_a3_0 := f_a3
  refine q_stI F hK hw f_a3 (vp_in_nI hxx (by decide)) dX1_add_38 (fun h_38 H locs f_a3 fr_38 hw => ?_)
  have f_q := fr_38.one f_q (f_q.kinds f_a3_0 (by simp))
  have f_a1 := fr_38.one f_a1 n02
  have f_a2 := fr_38.one f_a2 n12
  have f_a4 := fr_38.one f_a4 n23.symm
  have f_p9 := fr_38.one f_p9 (f_p9.kinds f_a3_0 (by simp))
  refine lv_aload_n hx hb dX1_add_39 rfl (lv_at hl 0 rfl) ?_
  refine p_get (ci := 1) (C := RX1) (T := TX1) (N := 6) 3 F rfl hi1 hl21 (by decide) hK hw f_q rfl dX1_add_40 ?_
  refine lv_aload_n hx hb dX1_add_43 rfl (lv_at hl 0 rfl) ?_
  refine p_get (ci := 1) (C := RX1) (T := TX1) (N := 6) 4 F rfl hi1 hl28 (by decide) hK hw f_q rfl dX1_add_44 ?_
  refine lv_iload_n hx hb dX1_add_47 rfl (lv_at hl 2 rfl) ?_
  have f_a4_0 := f_a4
  refine q_stI F hK hw f_a4 (vp_in_nI hxx (by decide)) dX1_add_48 (fun h_48 H locs f_a4 fr_48 hw => ?_)
  have f_q := fr_48.one f_q (f_q.kinds f_a4_0 (by simp))
  have f_a1 := fr_48.one f_a1 n03
  have f_a2 := fr_48.one f_a2 n13
  have f_a3 := fr_48.one f_a3 n23
  have f_p9 := fr_48.one f_p9 (f_p9.kinds f_a4_0 (by simp))
  refine lv_aload_n hx hb dX1_add_49 rfl (lv_at hl 0 rfl) ?_
  refine lv_aload_n hx hb dX1_add_50 rfl (lv_at hl 0 rfl) ?_
  refine p_get (ci := 1) (C := RX1) (T := TX1) (N := 6) 4 F rfl hi1 hl28 (by decide) hK hw f_q rfl dX1_add_51 ?_
  refine lv_iconst (v := 1) hx hb dX1_add_54 (by decide) ?_
  refine lv_iadd hx hb dX1_add_55 ?_
  refine lv_bipush (v := 16) hx hb dX1_add_56 (by decide) ?_
  refine lv_irem hx hb dX1_add_58 (by decide) ?_
  rw [next16 hxx]
  have f_q_0 := f_q
  refine q_put (fs' := [_, _, _, _, _, _]) (ci := 1) (C := RX1) (T := TX1) (N := 6) (ty0 := tyX1) (ty := .int) 4 F rfl hi1 tyX1_ok nmX1 hl28 (by decide) rfl (by decide +kernel) rfl rfl (Nat.le_of_ble_eq_true rfl) hK hw f_q rfl dX1_add_59 (fun h_59 H locs f_q fr_59 hw => ?_)
  have f_a1 := fr_59.one f_a1 (f_a1.kinds f_q_0 (by simp))
  have f_a2 := fr_59.one f_a2 (f_a2.kinds f_q_0 (by simp))
  have f_a3 := fr_59.one f_a3 (f_a3.kinds f_q_0 (by simp))
  have f_a4 := fr_59.one f_a4 (f_a4.kinds f_q_0 (by simp))
  have f_p9 := fr_59.one f_p9 (f_p9.kinds f_q_0 (by simp))
  refine lv_aload_n hx hb dX1_add_62 rfl (lv_at hl 0 rfl) ?_
  refine lv_bipush (v := 16) hx hb dX1_add_63 (by decide) ?_
  refine lv_aload_n hx hb dX1_add_65 rfl (lv_at hl 0 rfl) ?_
  refine p_get (ci := 1) (C := RX1) (T := TX1) (N := 6) 5 F rfl hi1 hl24 (by decide) hK hw f_q rfl dX1_add_66 ?_
  refine lv_iconst (v := 1) hx hb dX1_add_69 (by decide) ?_
  refine lv_iadd hx hb dX1_add_70 ?_
  refine va_mmin hx hb (hml.trans hl.1.symm) hown (hts (.methodLink RX1 48 Lib.Math.min.name) (by decide +kernel)) (hts (.static Lib.Math.min.name) (by decide +kernel)) (hts (.initialized "java/lang/Math") (by decide +kernel)) (hts (.code Lib.Math.min.name Lib.Math.min.code 2 (some .int)) (by decide +kernel)) (Nat.le_of_ble_eq_true rfl) (Nat.le_of_ble_eq_true rfl) (Nat.le_of_ble_eq_true rfl) (Nat.le_of_ble_eq_true rfl) dX1_add_71 ?_
  rw [held16 hhh]
  have f_q_0 := f_q
  refine q_put (fs' := [_, _, _, _, _, _]) (ci := 1) (C := RX1) (T := TX1) (N := 6) (ty0 := tyX1) (ty := .int) 5 F rfl hi1 tyX1_ok nmX1 hl24 (by decide) rfl (by decide +kernel) rfl rfl (Nat.le_of_ble_eq_true rfl) hK hw f_q rfl dX1_add_74 (fun h_74 H locs f_q fr_74 hw => ?_)
  have f_a1 := fr_74.one f_a1 (f_a1.kinds f_q_0 (by simp))
  have f_a2 := fr_74.one f_a2 (f_a2.kinds f_q_0 (by simp))
  have f_a3 := fr_74.one f_a3 (f_a3.kinds f_q_0 (by simp))
  have f_a4 := fr_74.one f_a4 (f_a4.kinds f_q_0 (by simp))
  have f_p9 := fr_74.one f_p9 (f_p9.kinds f_q_0 (by simp))
  have ex : cl (nI xx) = xx := cl_nI (by omega)
  rw [ex] at f_a1 f_a2 f_a3 f_a4
  exact ct_vret hx hb hr hlocks hK hw dX1_add_77 (Nat.le_of_ble_eq_true rfl) (Nat.le_of_ble_eq_true rfl) ⟨(fr_12.trans (fr_25.trans (fr_38.trans (fr_48.trans (fr_59.trans fr_74))))).mono (by simp), f_a1, f_a2, f_a3, f_a4, f_q⟩

set_option maxHeartbeats 4000000 in
set_option maxRecDepth 100000 in
theorem c_X3_use (l : Launch) (G : va_G) (Y : Nat → ClassId) (h : PH) (q od : Nat) (ink cop wai : Int32) (p0 : Int32) (f_q : pAt h q (oScr ink cop wai od)) : ctV l G Y pw yX3_use wsX3_use ({ frames := 0, cells := 0, slots := 0, locals := 0 }) [.ref q, .int p0] h (fun h' => pFr h h' [q] ∧ pAt h' q (oScr (ink - p0) (cop + p0) wai od)) := by
  refine ctV.of (cc := cX3_use) (maxL := 2) (ret := none) (by decide +kernel) rfl (Nat.le_of_ble_eq_true rfl) ?_
  intro A p e s m below meth c ls hB
  obtain ⟨F, hr, hlocks, hnm, hK, hA, hw, hl⟩ := hB
  obtain ⟨hx, hb, hml, hown, hts⟩ := id F
  have hl : lv_has ls 2 [(0, .ref q), (1, .int p0)] := hl
  have hi3 : ∀ w ∈ wsX30, w ∈ wsX3_use := by decide +kernel
  have hl9 : Cond.fieldLink RX3 9 "Scriptorium$Scribe" "ink" "I" ∈ wsX3_use := by decide +kernel
  have hl21 : Cond.fieldLink RX3 21 "Scriptorium$Scribe" "copied" "I" ∈ wsX3_use := by decide +kernel
  refine lv_aload_n hx hb dX3_use_0 rfl (lv_at hl 0 rfl) ?_
  refine lv_dup hx hb dX3_use_1 rfl ?_
  refine p_get (ci := 3) (C := RX3) (T := TX3) (N := 4) 0 F rfl hi3 hl9 (by decide) hK hw f_q rfl dX3_use_2 ?_
  refine lv_iload_n hx hb dX3_use_5 rfl (lv_at hl 1 rfl) ?_
  refine lv_isub hx hb dX3_use_6 ?_
  have f_q_0 := f_q
  refine q_put (fs' := [_, _, _, _]) (ci := 3) (C := RX3) (T := TX3) (N := 4) (ty0 := tyX3) (ty := .int) 0 F rfl hi3 tyX3_ok nmX3 hl9 (by decide) rfl (by decide +kernel) rfl rfl (Nat.le_of_ble_eq_true rfl) hK hw f_q rfl dX3_use_7 (fun h_7 H locs f_q fr_7 hw => ?_)
  refine lv_aload_n hx hb dX3_use_10 rfl (lv_at hl 0 rfl) ?_
  refine lv_dup hx hb dX3_use_11 rfl ?_
  refine p_get (ci := 3) (C := RX3) (T := TX3) (N := 4) 1 F rfl hi3 hl21 (by decide) hK hw f_q rfl dX3_use_12 ?_
  refine lv_iload_n hx hb dX3_use_15 rfl (lv_at hl 1 rfl) ?_
  refine lv_iadd hx hb dX3_use_16 ?_
  have f_q_0 := f_q
  refine q_put (fs' := [_, _, _, _]) (ci := 3) (C := RX3) (T := TX3) (N := 4) (ty0 := tyX3) (ty := .int) 1 F rfl hi3 tyX3_ok nmX3 hl21 (by decide) rfl (by decide +kernel) rfl rfl (Nat.le_of_ble_eq_true rfl) hK hw f_q rfl dX3_use_17 (fun h_17 H locs f_q fr_17 hw => ?_)
  exact ct_vret hx hb hr hlocks hK hw dX3_use_20 (Nat.le_of_ble_eq_true rfl) (Nat.le_of_ble_eq_true rfl) ⟨(fr_7.trans fr_17).mono (by simp), f_q⟩

set_option maxHeartbeats 4000000 in
set_option maxRecDepth 100000 in
theorem c_X3_addOrder (l : Launch) (G : va_G) (Y : Nat → ClassId) (h : PH) (q od : Nat) (ink cop : Int32) (w : Nat) (f : Nat → Option Nat) (p9 : Nat) (fs : List Value) (f_q : pAt h q (oScr ink cop (nI w) od)) (f_od : pAt h od (aP Y 8 f)) (f_p9 : pAt h p9 (.inr (2, fs))) (hw8 : w ≤ 8) (n9 : p9 ≠ q) : ctI l G Y pw yX3_addOrder wsX3_addOrder ({ frames := 0, cells := 0, slots := 0, locals := 0 }) [.ref q, .ref p9] h (fun r h' => (w = 8 ∧ r = -99 ∧ h' = h) ∨ (w < 8 ∧ r = nI (w + 1) ∧ pFr h h' [od, q] ∧ pAt h' od (aP Y 8 (va_up f w (some p9))) ∧ pAt h' q (oScr ink cop (nI (w + 1)) od))) := by
  refine ctI.of (cc := cX3_addOrder) (maxL := 2) (ret := (some .int)) (by decide +kernel) rfl (Nat.le_of_ble_eq_true rfl) ?_
  intro A p e s m below meth c ls hB
  obtain ⟨F, hr, hlocks, hnm, hK, hA, hw, hl⟩ := hB
  obtain ⟨hx, hb, hml, hown, hts⟩ := id F
  have hl : lv_has ls 2 [(0, .ref q), (1, .ref p9)] := hl
  have hi3 : ∀ w ∈ wsX30, w ∈ wsX3_addOrder := by decide +kernel
  have hl17 : Cond.fieldLink RX3 17 "Scriptorium$Scribe" "orders" "[LScriptorium$Passage;" ∈ wsX3_addOrder := by decide +kernel
  have hl24 : Cond.fieldLink RX3 24 "Scriptorium$Scribe" "waiting" "I" ∈ wsX3_addOrder := by decide +kernel
  refine lv_aload_n hx hb dX3_addOrder_0 rfl (lv_at hl 0 rfl) ?_
  refine p_get (ci := 3) (C := RX3) (T := TX3) (N := 4) 2 F rfl hi3 hl24 (by decide) hK hw f_q rfl dX3_addOrder_1 ?_
  refine lv_bipush (v := 8) hx hb dX3_addOrder_4 (by decide) ?_
  refine lv_icmp_lt (tgt := 12) hx hb dX3_addOrder_6 (by decide) (fun c_6 => ?_) (fun c_6 => ?_)
  · skip
    have hw9 : w < 8 := (nI_ltI (by omega) (by decide)).mp c_6
    refine lv_aload_n hx hb dX3_addOrder_12 rfl (lv_at hl 0 rfl) ?_
    refine p_get (ci := 3) (C := RX3) (T := TX3) (N := 4) 3 F rfl hi3 hl17 (by decide) hK hw f_q rfl dX3_addOrder_13 ?_
    refine lv_aload_n hx hb dX3_addOrder_16 rfl (lv_at hl 0 rfl) ?_
    refine p_get (ci := 3) (C := RX3) (T := TX3) (N := 4) 2 F rfl hi3 hl24 (by decide) hK hw f_q rfl dX3_addOrder_17 ?_
    refine lv_aload_n hx hb dX3_addOrder_20 rfl (lv_at hl 1 rfl) ?_
    have f_od_0 := f_od
    refine q_stP F hK hw f_od f_p9 (vp_in_nI hw9 (by decide)) dX3_addOrder_21 (fun h_21 H locs f_od fr_21 hw => ?_)
    have f_q := fr_21.one f_q (f_q.kinds f_od_0 (by simp))
    have f_p9 := fr_21.one f_p9 (f_p9.kinds f_od_0 (by simp))
    refine lv_aload_n hx hb dX3_addOrder_22 rfl (lv_at hl 0 rfl) ?_
    refine lv_dup hx hb dX3_addOrder_23 rfl ?_
    refine p_get (ci := 3) (C := RX3) (T := TX3) (N := 4) 2 F rfl hi3 hl24 (by decide) hK hw f_q rfl dX3_addOrder_24 ?_
    refine lv_iconst (v := 1) hx hb dX3_addOrder_27 (by decide) ?_
    refine lv_iadd hx hb dX3_addOrder_28 ?_
    rw [nI_1]
    have f_q_0 := f_q
    refine q_put (fs' := [_, _, _, _]) (ci := 3) (C := RX3) (T := TX3) (N := 4) (ty0 := tyX3) (ty := .int) 2 F rfl hi3 tyX3_ok nmX3 hl24 (by decide) rfl (by decide +kernel) rfl rfl (Nat.le_of_ble_eq_true rfl) hK hw f_q rfl dX3_addOrder_29 (fun h_29 H locs f_q fr_29 hw => ?_)
    have f_od := fr_29.one f_od (f_od.kinds f_q_0 (by simp))
    have f_p9 := fr_29.one f_p9 n9
    refine lv_aload_n hx hb dX3_addOrder_32 rfl (lv_at hl 0 rfl) ?_
    refine p_get (ci := 3) (C := RX3) (T := TX3) (N := 4) 2 F rfl hi3 hl24 (by decide) hK hw f_q rfl dX3_addOrder_33 ?_
    rw [cl_nI (show w < 2 ^ 31 by omega)] at f_od
    exact ct_iret hx hb hr (vp_nar_int _) hlocks hK hw dX3_addOrder_36 (Nat.le_of_ble_eq_true rfl) (Nat.le_of_ble_eq_true rfl) (Or.inr ⟨hw9, rfl, fr_21.trans fr_29, f_od, f_q⟩)
  · skip
    have hw9 : w = 8 := by
      have q : ¬ w < 8 := fun q => c_6 ((nI_ltI (b := 8) (by omega) (by decide)).mpr q)
      omega
    refine lv_bipush (v := -99) hx hb dX3_addOrder_9 (by decide) ?_
    exact ct_iret hx hb hr (vp_nar_int _) hlocks hK hw dX3_addOrder_11 (Nat.le_of_ble_eq_true rfl) (Nat.le_of_ble_eq_true rfl) (Or.inl ⟨hw9, rfl, rfl⟩)

set_option maxHeartbeats 4000000 in
set_option maxRecDepth 100000 in
theorem c_X3_firstOrder (l : Launch) (G : va_G) (Y : Nat → ClassId) (h : PH) (q od : Nat) (ink cop : Int32) (w : Nat) (f : Nat → Option Nat) (f_q : pAt h q (oScr ink cop (nI w) od)) (f_od : pAt h od (aP Y 8 f)) (hw8 : w ≤ 8) : ctQ l G Y pw yX3_firstOrder wsX3_firstOrder ({ frames := 0, cells := 0, slots := 0, locals := 0 }) [.ref q] h (fun r h' => h' = h ∧ ((w = 0 ∧ r = none) ∨ (0 < w ∧ r = f 0))) := by
  refine ctQ.of (cc := cX3_firstOrder) (maxL := 1) (ret := (some (.object "Scriptorium$Passage"))) (by decide +kernel) rfl (Nat.le_of_ble_eq_true rfl) ?_
  intro A p e s m below meth c ls hB
  obtain ⟨F, hr, hlocks, hnm, hK, hA, hw, hl⟩ := hB
  obtain ⟨hx, hb, hml, hown, hts⟩ := id F
  have hl : lv_has ls 1 [(0, .ref q)] := hl
  have hi3 : ∀ w ∈ wsX30, w ∈ wsX3_firstOrder := by decide +kernel
  have hl17 : Cond.fieldLink RX3 17 "Scriptorium$Scribe" "orders" "[LScriptorium$Passage;" ∈ wsX3_firstOrder := by decide +kernel
  have hl24 : Cond.fieldLink RX3 24 "Scriptorium$Scribe" "waiting" "I" ∈ wsX3_firstOrder := by decide +kernel
  refine lv_aload_n hx hb dX3_firstOrder_0 rfl (lv_at hl 0 rfl) ?_
  refine p_get (ci := 3) (C := RX3) (T := TX3) (N := 4) 2 F rfl hi3 hl24 (by decide) hK hw f_q rfl dX3_firstOrder_1 ?_
  refine lv_if_le (tgt := 16) hx hb dX3_firstOrder_4 (by decide) (fun c_4 => ?_) (fun c_4 => ?_)
  · skip
    refine lv_null hx hb dX3_firstOrder_16 ?_
    exact ct_qret (v := none) hx hb hr (Or.inl ⟨_, rfl⟩) hlocks hK hw dX3_firstOrder_17 (Nat.le_of_ble_eq_true rfl) (Nat.le_of_ble_eq_true rfl) ⟨rfl, Or.inl ⟨by have := (nI_leI (b := 0) (by omega) (by decide)).mp c_4; omega, rfl⟩⟩
  · skip
    refine lv_aload_n hx hb dX3_firstOrder_7 rfl (lv_at hl 0 rfl) ?_
    refine p_get (ci := 3) (C := RX3) (T := TX3) (N := 4) 3 F rfl hi3 hl17 (by decide) hK hw f_q rfl dX3_firstOrder_8 ?_
    refine lv_iconst (v := 0) hx hb dX3_firstOrder_11 (by decide) ?_
    refine p_ldP F hK hw f_od (vp_in_nI (n := 0) (by decide) (by decide)) dX3_firstOrder_12 ?_
    refine lv_goto (tgt := 17) hx hb dX3_firstOrder_13 (by decide) ?_
    exact ct_qret hx hb hr (Or.inl ⟨_, rfl⟩) hlocks hK hw dX3_firstOrder_17 (Nat.le_of_ble_eq_true rfl) (Nat.le_of_ble_eq_true rfl) ⟨rfl, Or.inr ⟨by
      rcases Nat.eq_zero_or_pos w with q | q
      · exact absurd (by rw [q]; decide) c_4
      · exact q, rfl⟩⟩

set_option maxHeartbeats 4000000 in
set_option maxRecDepth 100000 in
theorem c_X3_dropFirstOrder (l : Launch) (G : va_G) (Y : Nat → ClassId) (h : PH) (q od : Nat) (ink cop : Int32) (w : Nat) (f : Nat → Option Nat) (f_q : pAt h q (oScr ink cop (nI w) od)) (f_od : pAt h od (aP Y 8 f)) (hw8 : w ≤ 8) (hw1 : 0 < w) (hps : ∀ k, k < w → ∃ (p9 : Nat) (fs : List Value), f k = some p9 ∧ pAt h p9 (.inr (2, fs))) : ctV l G Y pw yX3_dropFirstOrder wsX3_dropFirstOrder ({ frames := 0, cells := 0, slots := 0, locals := 0 }) [.ref q] h (fun h' => pFr h h' [od, q] ∧ pAt h' q (oScr ink cop (nI (w - 1)) od) ∧ ∃ f', pAt h' od (aP Y 8 f') ∧ ∀ k, k + 1 < w → f' k = f (k + 1)) := by
  refine ctV.of (cc := cX3_dropFirstOrder) (maxL := 2) (ret := none) (by decide +kernel) rfl (Nat.le_of_ble_eq_true rfl) ?_
  intro A p e s m below meth c ls hB
  obtain ⟨F, hr, hlocks, hnm, hK, hA, hw, hl⟩ := hB
  obtain ⟨hx, hb, hml, hown, hts⟩ := id F
  have hl : lv_has ls 2 [(0, .ref q)] := hl
  have hi3 : ∀ w ∈ wsX30, w ∈ wsX3_dropFirstOrder := by decide +kernel
  have hl17 : Cond.fieldLink RX3 17 "Scriptorium$Scribe" "orders" "[LScriptorium$Passage;" ∈ wsX3_dropFirstOrder := by decide +kernel
  have hl24 : Cond.fieldLink RX3 24 "Scriptorium$Scribe" "waiting" "I" ∈ wsX3_dropFirstOrder := by decide +kernel
  have f_od0 := f_od
  refine lv_iconst (v := 1) hx hb dX3_dropFirstOrder_0 (by decide) ?_
  refine lv_istore_n (lv' := [(1, .int _), (0, .ref _)]) hx hb dX3_dropFirstOrder_1 rfl hl (by decide) rfl (fun ls hl => ?_)
  refine W_loop (σ := Nat × PH × (Nat → Option Nat)) 2 (fun n (q9 : Nat × PH × (Nat → Option Nat)) H locs ls => n = w - q9.1 ∧ 1 ≤ q9.1 ∧ q9.1 ≤ w ∧ pFr h q9.2.1 [od] ∧ pAt q9.2.1 q (oScr ink cop (nI w) od) ∧ pAt q9.2.1 od (aP Y 8 q9.2.2) ∧ (∀ j, j + 1 < q9.1 → q9.2.2 j = f (j + 1)) ∧ (∀ j, q9.1 ≤ j + 1 → q9.2.2 j = f j) ∧ wW G A s.heap (pw q9.2.1) H locs ∧ lv_has ls 2 [(1, .int (nI q9.1)), (0, .ref q)]) ?_ (n := w - 1) (x := (1, h, f)) ⟨rfl, Nat.le_refl _, hw1, pFr.rf, f_q, f_od, fun j hj => absurd hj (by omega), fun _ _ => rfl, hw, hl⟩
  intro n q9 H locs ls hI ih
  obtain ⟨t, h1, f1⟩ := q9
  obtain ⟨hn, h1t, ht, fr1, f_q, f_od, hlt, hge, hw, hl⟩ := hI
  dsimp only at hn h1t ht fr1 f_q f_od hlt hge hw hl
  refine lv_iload_n hx hb dX3_dropFirstOrder_2 rfl (lv_at hl 0 rfl) ?_
  refine lv_aload_n hx hb dX3_dropFirstOrder_3 rfl (lv_at hl 1 rfl) ?_
  refine p_get (ci := 3) (C := RX3) (T := TX3) (N := 4) 2 F rfl hi3 hl24 (by decide) hK hw f_q rfl dX3_dropFirstOrder_4 ?_
  refine lv_icmp_ge (tgt := 30) hx hb dX3_dropFirstOrder_7 (by decide) (fun c_7 => ?_) (fun c_7 => ?_)
  · skip
    have htn : t = w := by
      have := le_of_c (by omega) (by omega) c_7
      omega
    subst htn
    refine lv_aload_n hx hb dX3_dropFirstOrder_30 rfl (lv_at hl 1 rfl) ?_
    refine p_get (ci := 3) (C := RX3) (T := TX3) (N := 4) 2 F rfl hi3 hl24 (by decide) hK hw f_q rfl dX3_dropFirstOrder_31 ?_
    refine lv_if_le (tgt := 57) hx hb dX3_dropFirstOrder_34 (by decide) (fun c_34 => ?_) (fun c_34 => ?_)
    · exact absurd ((nI_leI (b := 0) (by omega) (by decide)).mp c_34) (by omega)
    · skip
      refine lv_aload_n hx hb dX3_dropFirstOrder_37 rfl (lv_at hl 1 rfl) ?_
      refine lv_dup hx hb dX3_dropFirstOrder_38 rfl ?_
      refine p_get (ci := 3) (C := RX3) (T := TX3) (N := 4) 2 F rfl hi3 hl24 (by decide) hK hw f_q rfl dX3_dropFirstOrder_39 ?_
      refine lv_iconst (v := 1) hx hb dX3_dropFirstOrder_42 (by decide) ?_
      refine lv_isub hx hb dX3_dropFirstOrder_43 ?_
      rw [show (1 : Int32) = nI 1 from rfl, pk_sub (show 1 ≤ t by omega)]
      have f_q_0 := f_q
      refine q_put (fs' := [_, _, _, _]) (ci := 3) (C := RX3) (T := TX3) (N := 4) (ty0 := tyX3) (ty := .int) 2 F rfl hi3 tyX3_ok nmX3 hl24 (by decide) rfl (by decide +kernel) rfl rfl (Nat.le_of_ble_eq_true rfl) hK hw f_q rfl dX3_dropFirstOrder_44 (fun h_44 H locs f_q fr_44 hw => ?_)
      have f_od := fr_44.one f_od (f_od.kinds f_q_0 (by simp))
      refine lv_aload_n hx hb dX3_dropFirstOrder_47 rfl (lv_at hl 1 rfl) ?_
      refine p_get (ci := 3) (C := RX3) (T := TX3) (N := 4) 3 F rfl hi3 hl17 (by decide) hK hw f_q rfl dX3_dropFirstOrder_48 ?_
      refine lv_aload_n hx hb dX3_dropFirstOrder_51 rfl (lv_at hl 1 rfl) ?_
      refine p_get (ci := 3) (C := RX3) (T := TX3) (N := 4) 2 F rfl hi3 hl24 (by decide) hK hw f_q rfl dX3_dropFirstOrder_52 ?_
      refine lv_null hx hb dX3_dropFirstOrder_55 ?_
      have f_od_0 := f_od
      refine q_stPN F hK hw f_od (vp_in_nI (show t - 1 < 8 by omega) (by decide)) dX3_dropFirstOrder_56 (fun h_56 H locs f_od fr_56 hw => ?_)
      have f_q := fr_56.one f_q (f_q.kinds f_od_0 (by simp))
      exact ct_vret hx hb hr hlocks hK hw dX3_dropFirstOrder_57 (Nat.le_of_ble_eq_true rfl) (Nat.le_of_ble_eq_true rfl) ⟨(fr1.trans (fr_44.trans fr_56)).mono (by simp), f_q, _, f_od, fun k hk => by
        show va_up f1 (cl (nI (t - 1))) none k = f (k + 1)
        rw [cl_nI (by omega), va_up_ne _ _ (by omega)]; exact hlt k hk⟩
  · skip
    have htn : t < w := lt_of_c (by omega) (by omega) c_7
    obtain ⟨p9, fs9, ep9, hp9⟩ := hps t htn
    have f_p9 : pAt h1 p9 (.inr (2, fs9)) := fr1.one hp9 (fun q => absurd (hp9.kinds f_od0 (by simp)) (fun z => z q))
    refine lv_aload_n hx hb dX3_dropFirstOrder_10 rfl (lv_at hl 1 rfl) ?_
    refine p_get (ci := 3) (C := RX3) (T := TX3) (N := 4) 3 F rfl hi3 hl17 (by decide) hK hw f_q rfl dX3_dropFirstOrder_11 ?_
    refine lv_iload_n hx hb dX3_dropFirstOrder_14 rfl (lv_at hl 0 rfl) ?_
    refine lv_iconst (v := 1) hx hb dX3_dropFirstOrder_15 (by decide) ?_
    refine lv_isub hx hb dX3_dropFirstOrder_16 ?_
    rw [show (1 : Int32) = nI 1 from rfl, pk_sub h1t]
    refine lv_aload_n hx hb dX3_dropFirstOrder_17 rfl (lv_at hl 1 rfl) ?_
    refine p_get (ci := 3) (C := RX3) (T := TX3) (N := 4) 3 F rfl hi3 hl17 (by decide) hK hw f_q rfl dX3_dropFirstOrder_18 ?_
    refine lv_iload_n hx hb dX3_dropFirstOrder_21 rfl (lv_at hl 0 rfl) ?_
    refine p_ldP F hK hw f_od (vp_in_nI (show t < 8 by omega) (by decide)) dX3_dropFirstOrder_22 ?_
    rw [cl_nI (show t < 2 ^ 31 by omega), hge t (by omega), ep9]
    have f_od_0 := f_od
    refine q_stP F hK hw f_od f_p9 (vp_in_nI (show t - 1 < 8 by omega) (by decide)) dX3_dropFirstOrder_23 (fun h_23 H locs f_od fr_23 hw => ?_)
    have f_q := fr_23.one f_q (f_q.kinds f_od_0 (by simp))
    have f_p9 := fr_23.one f_p9 (f_p9.kinds f_od_0 (by simp))
    refine lv_iinc (lv' := [(1, .int _), (0, .ref _)]) hx hb dX3_dropFirstOrder_24 hl (k := 0) rfl rfl (by decide) rfl (fun ls hl => ?_)
    refine lv_goto (tgt := 2) hx hb dX3_dropFirstOrder_27 (by decide) ?_
    refine ih _ (t + 1, h_23, _) _ _ _ (by omega) ⟨rfl, by omega, by omega, (fr1.trans fr_23).mono (by simp), f_q, f_od, fun j hj => ?_, fun j hj => ?_, hw, by rw [nI_succ]; exact hl⟩
    · show va_up f1 (cl (nI (t - 1))) (some p9) j = f (j + 1)
      rw [cl_nI (by omega)]
      by_cases e9 : j = t - 1
      · rw [e9, va_up_self, show t - 1 + 1 = t by omega, ep9]
      · rw [va_up_ne _ _ e9]; exact hlt j (by omega)
    · show va_up f1 (cl (nI (t - 1))) (some p9) j = f j
      have hj : t + 1 ≤ j + 1 := hj
      rw [cl_nI (by omega), va_up_ne _ _ (by omega)]; exact hge j (by omega)
