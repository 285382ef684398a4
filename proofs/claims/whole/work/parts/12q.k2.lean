set_option maxHeartbeats 4000000 in
set_option maxRecDepth 100000 in
theorem c_X4_isDesk (l : Launch) (G : va_G) (Y : Nat → ClassId)  {S : Type} (wf : S → va_W) (u : S) (p0 : Int32)  : ctI l G Y wf yX4_isDesk wsX4_isDesk ({ frames := 0, cells := 0, slots := 0, locals := 0 }) [.int p0] u (fun r u' => u' = u ∧ ((isD p0 ∧ r = 1) ∨ (¬ isD p0 ∧ r = 0))) := by
  refine ctI.of (cc := cX4_isDesk) (maxL := 1) (ret := (some .boolean)) (by decide +kernel) rfl (Nat.le_of_ble_eq_true rfl) ?_
  intro A p e s m below meth c ls hB
  obtain ⟨F, hr, hlocks, hnm, hK, hA, hw, hl⟩ := hB
  obtain ⟨hx, hb, hml, hown, hts⟩ := id F
  have hl : lv_has ls 1 [(0, .int p0)] := hl
  refine lv_iload_n hx hb dX4_isDesk_0 rfl (lv_at hl 0 rfl) ?_
  refine lv_if_lt (tgt := 14) hx hb dX4_isDesk_1 (by decide) (fun c_1 => ?_) (fun c_1 => ?_)
  · skip
    refine lv_iconst (v := 0) hx hb dX4_isDesk_14 (by decide) ?_
    exact ct_iret hx hb hr rfl hlocks hK hw dX4_isDesk_15 (Nat.le_of_ble_eq_true rfl) (Nat.le_of_ble_eq_true rfl) ⟨rfl, Or.inr ⟨fun h => h.1 c_1, rfl⟩⟩
  · skip
    refine lv_iload_n hx hb dX4_isDesk_4 rfl (lv_at hl 0 rfl) ?_
    refine lv_bipush (v := 6) hx hb dX4_isDesk_5 (by decide) ?_
    refine lv_icmp_ge (tgt := 14) hx hb dX4_isDesk_7 (by decide) (fun c_7 => ?_) (fun c_7 => ?_)
    · skip
      refine lv_iconst (v := 0) hx hb dX4_isDesk_14 (by decide) ?_
      exact ct_iret hx hb hr rfl hlocks hK hw dX4_isDesk_15 (Nat.le_of_ble_eq_true rfl) (Nat.le_of_ble_eq_true rfl) ⟨rfl, Or.inr ⟨fun h => h.2 c_7, rfl⟩⟩
    · skip
      refine lv_iconst (v := 1) hx hb dX4_isDesk_10 (by decide) ?_
      refine lv_goto (tgt := 15) hx hb dX4_isDesk_11 (by decide) ?_
      exact ct_iret hx hb hr rfl hlocks hK hw dX4_isDesk_15 (Nat.le_of_ble_eq_true rfl) (Nat.le_of_ble_eq_true rfl) ⟨rfl, Or.inl ⟨⟨c_1, c_7⟩, rfl⟩⟩

set_option maxHeartbeats 4000000 in
set_option maxRecDepth 100000 in
theorem c_X4_isScribe (l : Launch) (G : va_G) (Y : Nat → ClassId)  {S : Type} (wf : S → va_W) (u : S) (p0 : Int32)  : ctI l G Y wf yX4_isScribe wsX4_isScribe ({ frames := 0, cells := 0, slots := 0, locals := 0 }) [.int p0] u (fun r u' => u' = u ∧ ((isS p0 ∧ r = 1) ∨ (¬ isS p0 ∧ r = 0))) := by
  refine ctI.of (cc := cX4_isScribe) (maxL := 1) (ret := (some .boolean)) (by decide +kernel) rfl (Nat.le_of_ble_eq_true rfl) ?_
  intro A p e s m below meth c ls hB
  obtain ⟨F, hr, hlocks, hnm, hK, hA, hw, hl⟩ := hB
  obtain ⟨hx, hb, hml, hown, hts⟩ := id F
  have hl : lv_has ls 1 [(0, .int p0)] := hl
  refine lv_iload_n hx hb dX4_isScribe_0 rfl (lv_at hl 0 rfl) ?_
  refine lv_if_lt (tgt := 13) hx hb dX4_isScribe_1 (by decide) (fun c_1 => ?_) (fun c_1 => ?_)
  · skip
    refine lv_iconst (v := 0) hx hb dX4_isScribe_13 (by decide) ?_
    exact ct_iret hx hb hr rfl hlocks hK hw dX4_isScribe_14 (Nat.le_of_ble_eq_true rfl) (Nat.le_of_ble_eq_true rfl) ⟨rfl, Or.inr ⟨fun h => h.1 c_1, rfl⟩⟩
  · skip
    refine lv_iload_n hx hb dX4_isScribe_4 rfl (lv_at hl 0 rfl) ?_
    refine lv_iconst (v := 3) hx hb dX4_isScribe_5 (by decide) ?_
    refine lv_icmp_ge (tgt := 13) hx hb dX4_isScribe_6 (by decide) (fun c_6 => ?_) (fun c_6 => ?_)
    · skip
      refine lv_iconst (v := 0) hx hb dX4_isScribe_13 (by decide) ?_
      exact ct_iret hx hb hr rfl hlocks hK hw dX4_isScribe_14 (Nat.le_of_ble_eq_true rfl) (Nat.le_of_ble_eq_true rfl) ⟨rfl, Or.inr ⟨fun h => h.2 c_6, rfl⟩⟩
    · skip
      refine lv_iconst (v := 1) hx hb dX4_isScribe_9 (by decide) ?_
      refine lv_goto (tgt := 14) hx hb dX4_isScribe_10 (by decide) ?_
      exact ct_iret hx hb hr rfl hlocks hK hw dX4_isScribe_14 (Nat.le_of_ble_eq_true rfl) (Nat.le_of_ble_eq_true rfl) ⟨rfl, Or.inl ⟨⟨c_1, c_6⟩, rfl⟩⟩

set_option maxHeartbeats 4000000 in
set_option maxRecDepth 100000 in
theorem c_X4_signsCopied (l : Launch) (G : va_G) (Y : Nat → ClassId)  {S : Type} (wf : S → va_W) (u : S) (p0 : Int32)  : ctI l G Y wf yX4_signsCopied wsX4_signsCopied ({ frames := 0, cells := 0, slots := 0, locals := 0 }) [.int p0] u (fun r u' => u' = u ∧ r = mDone p0) := by
  refine ctI.of (cc := cX4_signsCopied) (maxL := 1) (ret := (some .int)) (by decide +kernel) rfl (Nat.le_of_ble_eq_true rfl) ?_
  intro A p e s m below meth c ls hB
  obtain ⟨F, hr, hlocks, hnm, hK, hA, hw, hl⟩ := hB
  obtain ⟨hx, hb, hml, hown, hts⟩ := id F
  have hl : lv_has ls 1 [(0, .int p0)] := hl
  refine lv_iload_n hx hb dX4_signsCopied_0 rfl (lv_at hl 0 rfl) ?_
  refine lv_if_lt (tgt := 6) hx hb dX4_signsCopied_1 (by decide) (fun c_1 => ?_) (fun c_1 => ?_)
  · skip
    refine lv_iload_n hx hb dX4_signsCopied_6 rfl (lv_at hl 0 rfl) ?_
    refine lv_bipush (v := -10) hx hb dX4_signsCopied_7 (by decide) ?_
    refine lv_icmp_gt (tgt := 19) hx hb dX4_signsCopied_9 (by decide) (fun c_9 => ?_) (fun c_9 => ?_)
    · skip
      refine lv_iconst (v := 0) hx hb dX4_signsCopied_19 (by decide) ?_
      exact ct_iret hx hb hr (vp_nar_int _) hlocks hK hw dX4_signsCopied_20 (Nat.le_of_ble_eq_true rfl) (Nat.le_of_ble_eq_true rfl) ⟨rfl, mDone_mid c_1 c_9⟩
    · skip
      refine lv_bipush (v := -10) hx hb dX4_signsCopied_12 (by decide) ?_
      refine lv_iload_n hx hb dX4_signsCopied_14 rfl (lv_at hl 0 rfl) ?_
      refine lv_isub hx hb dX4_signsCopied_15 ?_
      refine lv_goto (tgt := 20) hx hb dX4_signsCopied_16 (by decide) ?_
      exact ct_iret hx hb hr (vp_nar_int _) hlocks hK hw dX4_signsCopied_20 (Nat.le_of_ble_eq_true rfl) (Nat.le_of_ble_eq_true rfl) ⟨rfl, mDone_low c_9⟩
  · skip
    refine lv_iload_n hx hb dX4_signsCopied_4 rfl (lv_at hl 0 rfl) ?_
    exact ct_iret hx hb hr (vp_nar_int _) hlocks hK hw dX4_signsCopied_5 (Nat.le_of_ble_eq_true rfl) (Nat.le_of_ble_eq_true rfl) ⟨rfl, mDone_pos c_1⟩

set_option maxHeartbeats 4000000 in
set_option maxRecDepth 100000 in
theorem c_X4_tallyOf (l : Launch) (G : va_G) (Y : Nat → ClassId)  {S : Type} (wf : S → va_W) (u : S) (p0 : Int32) (hr9 : rRng p0) : ctI l G Y wf yX4_tallyOf wsX4_tallyOf ({ frames := 0, cells := 0, slots := 0, locals := 0 }) [.int p0] u (fun r u' => u' = u ∧ r = mTal p0) := by
  refine ctI.of (cc := cX4_tallyOf) (maxL := 1) (ret := (some .int)) (by decide +kernel) rfl (Nat.le_of_ble_eq_true rfl) ?_
  intro A p e s m below meth c ls hB
  obtain ⟨F, hr, hlocks, hnm, hK, hA, hw, hl⟩ := hB
  obtain ⟨hx, hb, hml, hown, hts⟩ := id F
  have hl : lv_has ls 1 [(0, .int p0)] := hl
  refine lv_iload_n hx hb dX4_tallyOf_0 rfl (lv_at hl 0 rfl) ?_
  by_cases k1 : p0 = -1
  · subst k1
    refine lv_tableIn (off := 27) (tgt := 28) hx hb dX4_tallyOf_1 (by decide) (by decide) (by decide) (by decide) ?_
    refine lv_iconst (v := 2) hx hb dX4_tallyOf_28 (by decide) ?_
    exact ct_iret hx hb hr (vp_nar_int _) hlocks hK hw dX4_tallyOf_29 (Nat.le_of_ble_eq_true rfl) (Nat.le_of_ble_eq_true rfl) ⟨rfl, rfl⟩
  by_cases k2 : p0 = -2
  · subst k2
    refine lv_tableIn (off := 29) (tgt := 30) hx hb dX4_tallyOf_1 (by decide) (by decide) (by decide) (by decide) ?_
    refine lv_iconst (v := 3) hx hb dX4_tallyOf_30 (by decide) ?_
    exact ct_iret hx hb hr (vp_nar_int _) hlocks hK hw dX4_tallyOf_31 (Nat.le_of_ble_eq_true rfl) (Nat.le_of_ble_eq_true rfl) ⟨rfl, rfl⟩
  by_cases k3 : p0 = -3
  · subst k3
    refine lv_tableIn (off := 31) (tgt := 32) hx hb dX4_tallyOf_1 (by decide) (by decide) (by decide) (by decide) ?_
    refine lv_iconst (v := 4) hx hb dX4_tallyOf_32 (by decide) ?_
    exact ct_iret hx hb hr (vp_nar_int _) hlocks hK hw dX4_tallyOf_33 (Nat.le_of_ble_eq_true rfl) (Nat.le_of_ble_eq_true rfl) ⟨rfl, rfl⟩
  have hrd := rRng_default hr9 k1 k2 k3
  refine lv_tableOut (tgt := 34) hx hb dX4_tallyOf_1 (rOut hrd) (by decide) ?_
  refine lv_iload_n hx hb dX4_tallyOf_34 rfl (lv_at hl 0 rfl) ?_
  refine lv_if_lt (tgt := 42) hx hb dX4_tallyOf_35 (by decide) (fun c_35 => ?_) (fun c_35 => ?_)
  · skip
    refine lv_iconst (v := 5) hx hb dX4_tallyOf_42 (by decide) ?_
    exact ct_iret hx hb hr (vp_nar_int _) hlocks hK hw dX4_tallyOf_43 (Nat.le_of_ble_eq_true rfl) (Nat.le_of_ble_eq_true rfl) ⟨rfl, rTal5 hrd c_35⟩
  · skip
    refine lv_iconst (v := 1) hx hb dX4_tallyOf_38 (by decide) ?_
    refine lv_goto (tgt := 43) hx hb dX4_tallyOf_39 (by decide) ?_
    exact ct_iret hx hb hr (vp_nar_int _) hlocks hK hw dX4_tallyOf_43 (Nat.le_of_ble_eq_true rfl) (Nat.le_of_ble_eq_true rfl) ⟨rfl, rTal1 c_35⟩

set_option maxHeartbeats 4000000 in
set_option maxRecDepth 100000 in
theorem c_X4_isPossible (l : Launch) (G : va_G) (Y : Nat → ClassId) (h : PH) (p9 : Nat) (ps pa pi pb pj pn : Int32) (f_p : pAt h p9 (oPas ps pa pi pb pj pn)) : ctI l G Y pw yX4_isPossible wsX4_isPossible ({ frames := 1, cells := 0, slots := 0, locals := 30 }) [.ref p9] h (fun r h' => h' = h ∧ (((isS ps ∧ isD pa ∧ isD pb) ∧ r = 1) ∨ (¬ (isS ps ∧ isD pa ∧ isD pb) ∧ r = 0))) := by
  refine ctI.of (cc := cX4_isPossible) (maxL := 1) (ret := (some .boolean)) (by decide +kernel) rfl (Nat.le_of_ble_eq_true rfl) ?_
  intro A p e s m below meth c ls hB
  obtain ⟨F, hr, hlocks, hnm, hK, hA, hw, hl⟩ := hB
  obtain ⟨hx, hb, hml, hown, hts⟩ := id F
  have hl : lv_has ls 1 [(0, .ref p9)] := hl
  have hi2 : ∀ w ∈ wsX20, w ∈ wsX4_isPossible := by decide +kernel
  have hl164 : Cond.fieldLink RX4 164 "Scriptorium$Passage" "scribe" "I" ∈ wsX4_isPossible := by decide +kernel
  have hl167 : Cond.fieldLink RX4 167 "Scriptorium$Passage" "a" "I" ∈ wsX4_isPossible := by decide +kernel
  have hl170 : Cond.fieldLink RX4 170 "Scriptorium$Passage" "b" "I" ∈ wsX4_isPossible := by decide +kernel
  refine lv_aload_n hx hb dX4_isPossible_0 rfl (lv_at hl 0 rfl) ?_
  refine p_get (ci := 2) (C := RX2) (T := TX2) (N := 6) 0 F rfl hi2 hl164 (by decide) hK hw f_p rfl dX4_isPossible_1 ?_
  refine (c_X4_isScribe l G Y pw _ _).callS F (va_cwS 1 hts gX4_isPossible_X4_isScribe rfl rfl rfl (by decide +kernel) ⟨Nat.le_of_ble_eq_true rfl, Nat.le_of_ble_eq_true rfl⟩) hK hw hA rfl rfl hl.1 (Nat.le_of_ble_eq_true rfl) dX4_isPossible_4 ⟨Nat.le_of_ble_eq_true rfl, Nat.le_of_ble_eq_true rfl⟩ (fun r_4 h_4 H locs hp_4 hw => ?_)
  obtain ⟨eh_4, hp_4⟩ := hp_4
  rw [eh_4] at hw
  rcases hp_4 with ⟨hq_4, rfl⟩ | ⟨hq_4, rfl⟩
  · skip
    refine lv_if_eq (tgt := 34) hx hb dX4_isPossible_7 (by decide) (fun c_7 => ?_) (fun c_7 => ?_)
    · exact absurd c_7 (by decide)
    · skip
      refine lv_aload_n hx hb dX4_isPossible_10 rfl (lv_at hl 0 rfl) ?_
      refine p_get (ci := 2) (C := RX2) (T := TX2) (N := 6) 1 F rfl hi2 hl167 (by decide) hK hw f_p rfl dX4_isPossible_11 ?_
      refine (c_X4_isDesk l G Y pw _ _).callS F (va_cwS 1 hts gX4_isPossible_X4_isDesk rfl rfl rfl (by decide +kernel) ⟨Nat.le_of_ble_eq_true rfl, Nat.le_of_ble_eq_true rfl⟩) hK hw hA rfl rfl hl.1 (Nat.le_of_ble_eq_true rfl) dX4_isPossible_14 ⟨Nat.le_of_ble_eq_true rfl, Nat.le_of_ble_eq_true rfl⟩ (fun r_14 h_14 H locs hp_14 hw => ?_)
      obtain ⟨eh_14, hp_14⟩ := hp_14
      rw [eh_14] at hw
      rcases hp_14 with ⟨hq_14, rfl⟩ | ⟨hq_14, rfl⟩
      · skip
        refine lv_if_eq (tgt := 34) hx hb dX4_isPossible_17 (by decide) (fun c_17 => ?_) (fun c_17 => ?_)
        · exact absurd c_17 (by decide)
        · skip
          refine lv_aload_n hx hb dX4_isPossible_20 rfl (lv_at hl 0 rfl) ?_
          refine p_get (ci := 2) (C := RX2) (T := TX2) (N := 6) 3 F rfl hi2 hl170 (by decide) hK hw f_p rfl dX4_isPossible_21 ?_
          refine (c_X4_isDesk l G Y pw _ _).callS F (va_cwS 1 hts gX4_isPossible_X4_isDesk rfl rfl rfl (by decide +kernel) ⟨Nat.le_of_ble_eq_true rfl, Nat.le_of_ble_eq_true rfl⟩) hK hw hA rfl rfl hl.1 (Nat.le_of_ble_eq_true rfl) dX4_isPossible_24 ⟨Nat.le_of_ble_eq_true rfl, Nat.le_of_ble_eq_true rfl⟩ (fun r_24 h_24 H locs hp_24 hw => ?_)
          obtain ⟨eh_24, hp_24⟩ := hp_24
          rw [eh_24] at hw
          rcases hp_24 with ⟨hq_24, rfl⟩ | ⟨hq_24, rfl⟩
          · skip
            refine lv_if_eq (tgt := 34) hx hb dX4_isPossible_27 (by decide) (fun c_27 => ?_) (fun c_27 => ?_)
            · exact absurd c_27 (by decide)
            · skip
              refine lv_iconst (v := 1) hx hb dX4_isPossible_30 (by decide) ?_
              refine lv_goto (tgt := 35) hx hb dX4_isPossible_31 (by decide) ?_
              exact ct_iret hx hb hr rfl hlocks hK hw dX4_isPossible_35 (Nat.le_of_ble_eq_true rfl) (Nat.le_of_ble_eq_true rfl) ⟨rfl, Or.inl ⟨⟨hq_4, hq_14, hq_24⟩, rfl⟩⟩
          · skip
            refine lv_if_eq (tgt := 34) hx hb dX4_isPossible_27 (by decide) (fun c_27 => ?_) (fun c_27 => ?_)
            · skip
              refine lv_iconst (v := 0) hx hb dX4_isPossible_34 (by decide) ?_
              exact ct_iret hx hb hr rfl hlocks hK hw dX4_isPossible_35 (Nat.le_of_ble_eq_true rfl) (Nat.le_of_ble_eq_true rfl) ⟨rfl, Or.inr ⟨fun h => hq_24 h.2.2, rfl⟩⟩
            · exact absurd rfl c_27
      · skip
        refine lv_if_eq (tgt := 34) hx hb dX4_isPossible_17 (by decide) (fun c_17 => ?_) (fun c_17 => ?_)
        · skip
          refine lv_iconst (v := 0) hx hb dX4_isPossible_34 (by decide) ?_
          exact ct_iret hx hb hr rfl hlocks hK hw dX4_isPossible_35 (Nat.le_of_ble_eq_true rfl) (Nat.le_of_ble_eq_true rfl) ⟨rfl, Or.inr ⟨fun h => hq_14 h.2.1, rfl⟩⟩
        · exact absurd rfl c_17
  · skip
    refine lv_if_eq (tgt := 34) hx hb dX4_isPossible_7 (by decide) (fun c_7 => ?_) (fun c_7 => ?_)
    · skip
      refine lv_iconst (v := 0) hx hb dX4_isPossible_34 (by decide) ?_
      exact ct_iret hx hb hr rfl hlocks hK hw dX4_isPossible_35 (Nat.le_of_ble_eq_true rfl) (Nat.le_of_ble_eq_true rfl) ⟨rfl, Or.inr ⟨fun h => hq_4 h.1, rfl⟩⟩
    · exact absurd rfl c_7

set_option maxHeartbeats 4000000 in
set_option maxRecDepth 100000 in
theorem c_X4_hindranceBetween (l : Launch) (G : va_G) (Y : Nat → ClassId) (h : PH) (o v1 so1 : Nat) (s1 : Int32) (b v2 so2 : Nat) (s2 : Int32) (f_o : pAt h o (oBook s1 v1 so1)) (f_b : pAt h b (oBook s2 v2 so2))  : ctI l G Y pw yX4_hindranceBetween wsX4_hindranceBetween ({ frames := 2, cells := 0, slots := 0, locals := 60 }) [.ref o, .ref b] h (fun r h' => h' = h ∧ r = cHin s1 s2) := by
  refine ctI.of (cc := cX4_hindranceBetween) (maxL := 2) (ret := (some .int)) (by decide +kernel) rfl (Nat.le_of_ble_eq_true rfl) ?_
  intro A p e s m below meth c ls hB
  obtain ⟨F, hr, hlocks, hnm, hK, hA, hw, hl⟩ := hB
  obtain ⟨hx, hb, hml, hown, hts⟩ := id F
  have hl : lv_has ls 2 [(0, .ref o), (1, .ref b)] := hl
  have hi0 : ∀ w ∈ wsX00, w ∈ wsX4_hindranceBetween := by decide +kernel
  have hl58 : Cond.fieldLink RX4 58 "Scriptorium$Book" "script" "I" ∈ wsX4_hindranceBetween := by decide +kernel
  refine lv_aload_n hx hb dX4_hindranceBetween_0 rfl (lv_at hl 0 rfl) ?_
  refine p_get (ci := 0) (C := RX0) (T := TX0) (N := 3) 0 F rfl hi0 hl58 (by decide) hK hw f_o rfl dX4_hindranceBetween_1 ?_
  refine lv_iconst (v := -1) hx hb dX4_hindranceBetween_4 (by decide) ?_
  refine lv_icmp_eq (tgt := 16) hx hb dX4_hindranceBetween_5 (by decide) (fun c_5 => ?_) (fun c_5 => ?_)
  · skip
    refine lv_iconst (v := -1) hx hb dX4_hindranceBetween_16 (by decide) ?_
    exact ct_iret hx hb hr (vp_nar_int _) hlocks hK hw dX4_hindranceBetween_17 (Nat.le_of_ble_eq_true rfl) (Nat.le_of_ble_eq_true rfl) ⟨rfl, by unfold cHin; rw [if_pos (Or.inl c_5)]⟩
  · skip
    refine lv_aload_n hx hb dX4_hindranceBetween_8 rfl (lv_at hl 1 rfl) ?_
    refine p_get (ci := 0) (C := RX0) (T := TX0) (N := 3) 0 F rfl hi0 hl58 (by decide) hK hw f_b rfl dX4_hindranceBetween_9 ?_
    refine lv_iconst (v := -1) hx hb dX4_hindranceBetween_12 (by decide) ?_
    refine lv_icmp_ne (tgt := 18) hx hb dX4_hindranceBetween_13 (by decide) (fun c_13 => ?_) (fun c_13 => ?_)
    · skip
      refine lv_aload_n hx hb dX4_hindranceBetween_18 rfl (lv_at hl 0 rfl) ?_
      refine lv_aload_n hx hb dX4_hindranceBetween_19 rfl (lv_at hl 1 rfl) ?_
      refine (c_X0_isAlike l G Y _ _ _ _ _ _ _ _ _ f_o f_b).callV F (cwV 1 hts gX4_hindranceBetween_X0_isAlike rfl rfl rfl (by decide +kernel) ⟨Nat.le_of_ble_eq_true rfl, Nat.le_of_ble_eq_true rfl⟩) hK hw hA (p_recv hK hw f_o rfl) rfl rfl hl.1 (Nat.le_of_ble_eq_true rfl) dX4_hindranceBetween_20 ⟨Nat.le_of_ble_eq_true rfl, Nat.le_of_ble_eq_true rfl⟩ (fun r_20 h_20 H locs hp_20 hw => ?_)
      obtain ⟨eh_20, hp_20⟩ := hp_20
      rw [eh_20] at hw
      rcases hp_20 with ⟨hq_20, rfl⟩ | ⟨hq_20, rfl⟩
      · skip
        refine lv_if_eq (tgt := 30) hx hb dX4_hindranceBetween_23 (by decide) (fun c_23 => ?_) (fun c_23 => ?_)
        · exact absurd c_23 (by decide)
        · skip
          refine lv_iconst (v := 0) hx hb dX4_hindranceBetween_26 (by decide) ?_
          refine lv_goto (tgt := 32) hx hb dX4_hindranceBetween_27 (by decide) ?_
          exact ct_iret hx hb hr (vp_nar_int _) hlocks hK hw dX4_hindranceBetween_32 (Nat.le_of_ble_eq_true rfl) (Nat.le_of_ble_eq_true rfl) ⟨rfl, by unfold cHin; rw [if_neg (fun q => q.elim c_5 c_13), if_pos hq_20]⟩
      · skip
        refine lv_if_eq (tgt := 30) hx hb dX4_hindranceBetween_23 (by decide) (fun c_23 => ?_) (fun c_23 => ?_)
        · skip
          refine lv_bipush (v := -2) hx hb dX4_hindranceBetween_30 (by decide) ?_
          exact ct_iret hx hb hr (vp_nar_int _) hlocks hK hw dX4_hindranceBetween_32 (Nat.le_of_ble_eq_true rfl) (Nat.le_of_ble_eq_true rfl) ⟨rfl, by unfold cHin; rw [if_neg (fun q => q.elim c_5 c_13), if_neg hq_20]⟩
        · exact absurd rfl c_23
    · skip
      refine lv_iconst (v := -1) hx hb dX4_hindranceBetween_16 (by decide) ?_
      exact ct_iret hx hb hr (vp_nar_int _) hlocks hK hw dX4_hindranceBetween_17 (Nat.le_of_ble_eq_true rfl) (Nat.le_of_ble_eq_true rfl) ⟨rfl, by unfold cHin; rw [if_pos (Or.inr c_13)]⟩

set_option maxHeartbeats 4000000 in
set_option maxRecDepth 100000 in
theorem c_X4_transcribe (l : Launch) (G : va_G) (Y : Nat → ClassId) (h : PH) (p9 : Nat) (ps pa pi pb pj pn : Int32) (o v1 so1 : Nat) (s1 : Int32) (n1 : Nat) (V1 : Nat → Int64) (T1 : Nat → Int32) (b v2 so2 : Nat) (s2 : Int32) (n2 : Nat) (V2 : Nat → Int64) (T2 : Nat → Int32) (f_p : pAt h p9 (oPas ps pa pi pb pj pn)) (f_o : pAt h o (oBook s1 v1 so1)) (f_ov : pAt h v1 (aJ Y n1 V1)) (f_os : pAt h so1 (aI Y n1 T1)) (f_b : pAt h b (oBook s2 v2 so2)) (f_bv : pAt h v2 (aJ Y n2 V2)) (f_bs : pAt h so2 (aI Y n2 T2)) (hn1 : n1 ≤ 40) (hn2 : n2 ≤ 40) : ctI l G Y pw yX4_transcribe wsX4_transcribe ({ frames := 3, cells := 0, slots := 0, locals := 120 }) [.ref p9, .ref o, .ref b] h (fun r h' => (¬ cHin s1 s2 = 0 ∧ r = cHin s1 s2 ∧ h' = h) ∨ (cHin s1 s2 = 0 ∧ ¬ (cRun n1 pi pn ∧ cRun n2 pj pn) ∧ r = -3 ∧ h' = h) ∨ (cHin s1 s2 = 0 ∧ ∃ ii jj nn st : Nat, pi = nI ii ∧ pj = nI jj ∧ pn = nI nn ∧ ii + nn ≤ n1 ∧ jj + nn ≤ n2 ∧ cStop s2 T1 ii nn st ∧ r = (if st < nn then -10 - nI st else nI nn) ∧ pFr h h' [v2, so2] ∧ pAt h' v2 (aJ Y n2 (va_cpy V1 V2 ii jj st)) ∧ pAt h' so2 (aI Y n2 (va_cpy T1 T2 ii jj st)))) := by
  refine ctI.of (cc := cX4_transcribe) (maxL := 5) (ret := (some .int)) (by decide +kernel) rfl (Nat.le_of_ble_eq_true rfl) ?_
  intro A p e s m below meth c ls hB
  obtain ⟨F, hr, hlocks, hnm, hK, hA, hw, hl⟩ := hB
  obtain ⟨hx, hb, hml, hown, hts⟩ := id F
  have hl : lv_has ls 5 [(0, .ref p9), (1, .ref o), (2, .ref b)] := hl
  have hi2 : ∀ w ∈ wsX20, w ∈ wsX4_transcribe := by decide +kernel
  have hl173 : Cond.fieldLink RX4 173 "Scriptorium$Passage" "n" "I" ∈ wsX4_transcribe := by decide +kernel
  have hl194 : Cond.fieldLink RX4 194 "Scriptorium$Passage" "i" "I" ∈ wsX4_transcribe := by decide +kernel
  have hl201 : Cond.fieldLink RX4 201 "Scriptorium$Passage" "j" "I" ∈ wsX4_transcribe := by decide +kernel
  refine lv_aload_n hx hb dX4_transcribe_0 rfl (lv_at hl 1 rfl) ?_
  refine lv_aload_n hx hb dX4_transcribe_1 rfl (lv_at hl 2 rfl) ?_
  refine (c_X4_hindranceBetween l G Y _ _ _ _ _ _ _ _ _ f_o f_b).callS F (va_cwS 2 hts gX4_transcribe_X4_hindranceBetween rfl rfl rfl (by decide +kernel) ⟨Nat.le_of_ble_eq_true rfl, Nat.le_of_ble_eq_true rfl⟩) hK hw hA rfl rfl hl.1 (Nat.le_of_ble_eq_true rfl) dX4_transcribe_2 ⟨Nat.le_of_ble_eq_true rfl, Nat.le_of_ble_eq_true rfl⟩ (fun r_2 h_2 H locs hp_2 hw => ?_)
  obtain ⟨eh_2, rfl⟩ := hp_2
  rw [eh_2] at hw
  refine lv_istore_n (lv' := [(3, .int _), (0, .ref _), (1, .ref _), (2, .ref _)]) hx hb dX4_transcribe_5 rfl hl (by decide) rfl (fun ls hl => ?_)
  refine lv_iload_n hx hb dX4_transcribe_6 rfl (lv_at hl 0 rfl) ?_
  refine lv_if_eq (tgt := 12) hx hb dX4_transcribe_7 (by decide) (fun c_7 => ?_) (fun c_7 => ?_)
  · skip
    refine lv_aload_n hx hb dX4_transcribe_12 rfl (lv_at hl 2 rfl) ?_
    refine lv_aload_n hx hb dX4_transcribe_13 rfl (lv_at hl 1 rfl) ?_
    refine p_get (ci := 2) (C := RX2) (T := TX2) (N := 6) 2 F rfl hi2 hl194 (by decide) hK hw f_p rfl dX4_transcribe_14 ?_
    refine lv_aload_n hx hb dX4_transcribe_17 rfl (lv_at hl 1 rfl) ?_
    refine p_get (ci := 2) (C := RX2) (T := TX2) (N := 6) 5 F rfl hi2 hl173 (by decide) hK hw f_p rfl dX4_transcribe_18 ?_
    refine (c_X0_hasRun l G Y _ _ _ _ _ _ _ (fun _ => 0) _ _ f_o f_ov).callV F (cwV 2 hts gX4_transcribe_X0_hasRun rfl rfl rfl (by decide +kernel) ⟨Nat.le_of_ble_eq_true rfl, Nat.le_of_ble_eq_true rfl⟩) hK hw hA (p_recv hK hw f_o rfl) rfl rfl hl.1 (Nat.le_of_ble_eq_true rfl) dX4_transcribe_21 ⟨Nat.le_of_ble_eq_true rfl, Nat.le_of_ble_eq_true rfl⟩ (fun r_21 h_21 H locs hp_21 hw => ?_)
    obtain ⟨eh_21, hp_21⟩ := hp_21
    rw [eh_21] at hw
    rcases hp_21 with ⟨hq_21, rfl⟩ | ⟨hq_21, rfl⟩
    · skip
      refine lv_if_eq (tgt := 42) hx hb dX4_transcribe_24 (by decide) (fun c_24 => ?_) (fun c_24 => ?_)
      · exact absurd c_24 (by decide)
      · skip
        refine lv_aload_n hx hb dX4_transcribe_27 rfl (lv_at hl 3 rfl) ?_
        refine lv_aload_n hx hb dX4_transcribe_28 rfl (lv_at hl 1 rfl) ?_
        refine p_get (ci := 2) (C := RX2) (T := TX2) (N := 6) 4 F rfl hi2 hl201 (by decide) hK hw f_p rfl dX4_transcribe_29 ?_
        refine lv_aload_n hx hb dX4_transcribe_32 rfl (lv_at hl 1 rfl) ?_
        refine p_get (ci := 2) (C := RX2) (T := TX2) (N := 6) 5 F rfl hi2 hl173 (by decide) hK hw f_p rfl dX4_transcribe_33 ?_
        refine (c_X0_hasRun l G Y _ _ _ _ _ _ _ (fun _ => 0) _ _ f_b f_bv).callV F (cwV 2 hts gX4_transcribe_X0_hasRun rfl rfl rfl (by decide +kernel) ⟨Nat.le_of_ble_eq_true rfl, Nat.le_of_ble_eq_true rfl⟩) hK hw hA (p_recv hK hw f_b rfl) rfl rfl hl.1 (Nat.le_of_ble_eq_true rfl) dX4_transcribe_36 ⟨Nat.le_of_ble_eq_true rfl, Nat.le_of_ble_eq_true rfl⟩ (fun r_36 h_36 H locs hp_36 hw => ?_)
        obtain ⟨eh_36, hp_36⟩ := hp_36
        rw [eh_36] at hw
        rcases hp_36 with ⟨hq_36, rfl⟩ | ⟨hq_36, rfl⟩
        · skip
          refine lv_if_ne (tgt := 45) hx hb dX4_transcribe_39 (by decide) (fun c_39 => ?_) (fun c_39 => ?_)
          · skip
            obtain ⟨ii, nn, rfl, rfl, hb1⟩ := cRun_nat hn1 hq_21
            obtain ⟨jj, nn', rfl, e9, hb2⟩ := cRun_nat hn2 hq_36
            obtain rfl : nn = nn' := (nI_eq (by omega) (by omega)).mp e9
            refine lv_aload_n hx hb dX4_transcribe_45 rfl (lv_at hl 3 rfl) ?_
            refine lv_aload_n hx hb dX4_transcribe_46 rfl (lv_at hl 2 rfl) ?_
            refine lv_aload_n hx hb dX4_transcribe_47 rfl (lv_at hl 1 rfl) ?_
            refine p_get (ci := 2) (C := RX2) (T := TX2) (N := 6) 2 F rfl hi2 hl194 (by decide) hK hw f_p rfl dX4_transcribe_48 ?_
            refine lv_aload_n hx hb dX4_transcribe_51 rfl (lv_at hl 1 rfl) ?_
            refine p_get (ci := 2) (C := RX2) (T := TX2) (N := 6) 5 F rfl hi2 hl173 (by decide) hK hw f_p rfl dX4_transcribe_52 ?_
            refine (c_X0_fittingOf l G Y _ _ _ _ _ _ _ _ _ _ _ _ _ f_b f_o f_os hb1 hn1).callV F (cwV 3 hts gX4_transcribe_X0_fittingOf rfl rfl rfl (by decide +kernel) ⟨Nat.le_of_ble_eq_true rfl, Nat.le_of_ble_eq_true rfl⟩) hK hw hA (p_recv hK hw f_b rfl) rfl rfl hl.1 (Nat.le_of_ble_eq_true rfl) dX4_transcribe_55 ⟨Nat.le_of_ble_eq_true rfl, Nat.le_of_ble_eq_true rfl⟩ (fun r_55 h_55 H locs hp_55 hw => ?_)
            obtain ⟨eh_55, st, hst, rfl⟩ := hp_55
            rw [eh_55] at hw
            have hst1 := hst.1
            have f_bv0 := f_bv
            have f_bs0 := f_bs
            refine lv_istore (lv' := [(4, .int _), (3, .int _), (0, .ref _), (1, .ref _), (2, .ref _)]) hx hb dX4_transcribe_58 hl (by decide) rfl (fun ls hl => ?_)
            refine lv_aload_n hx hb dX4_transcribe_60 rfl (lv_at hl 4 rfl) ?_
            refine lv_aload_n hx hb dX4_transcribe_61 rfl (lv_at hl 3 rfl) ?_
            refine lv_aload_n hx hb dX4_transcribe_62 rfl (lv_at hl 2 rfl) ?_
            refine p_get (ci := 2) (C := RX2) (T := TX2) (N := 6) 2 F rfl hi2 hl194 (by decide) hK hw f_p rfl dX4_transcribe_63 ?_
            refine lv_aload_n hx hb dX4_transcribe_66 rfl (lv_at hl 2 rfl) ?_
            refine p_get (ci := 2) (C := RX2) (T := TX2) (N := 6) 4 F rfl hi2 hl201 (by decide) hK hw f_p rfl dX4_transcribe_67 ?_
            refine lv_iload hx hb dX4_transcribe_70 (lv_at hl 0 rfl) ?_
            refine (c_X0_take l G Y _ _ _ _ _ _ _ _ _ _ _ _ _ _ _ ii jj st f_b f_bv f_bs f_o f_ov f_os (by omega) (by omega) hn1 hn2).callV F (cwV 4 hts gX4_transcribe_X0_take rfl rfl rfl (by decide +kernel) ⟨Nat.le_of_ble_eq_true rfl, Nat.le_of_ble_eq_true rfl⟩) hK hw hA (p_recv hK hw f_b rfl) rfl rfl hl.1 (Nat.le_of_ble_eq_true rfl) dX4_transcribe_72 ⟨Nat.le_of_ble_eq_true rfl, Nat.le_of_ble_eq_true rfl⟩ (fun h_72 H locs hp_72 hw => ?_)
            obtain ⟨frT, f_bv, f_bs⟩ := hp_72
            have f_p := frT _ _ (nin2 (f_p.kinds f_bv0 (by simp)) (f_p.kinds f_bs0 (by simp))) f_p
            refine lv_iload hx hb dX4_transcribe_75 (lv_at hl 0 rfl) ?_
            refine lv_aload_n hx hb dX4_transcribe_77 rfl (lv_at hl 2 rfl) ?_
            refine p_get (ci := 2) (C := RX2) (T := TX2) (N := 6) 5 F rfl hi2 hl173 (by decide) hK hw f_p rfl dX4_transcribe_78 ?_
            refine lv_icmp_ge (tgt := 92) hx hb dX4_transcribe_81 (by decide) (fun c_81 => ?_) (fun c_81 => ?_)
            · skip
              refine lv_aload_n hx hb dX4_transcribe_92 rfl (lv_at hl 2 rfl) ?_
              refine p_get (ci := 2) (C := RX2) (T := TX2) (N := 6) 5 F rfl hi2 hl173 (by decide) hK hw f_p rfl dX4_transcribe_93 ?_
              exact ct_iret hx hb hr (vp_nar_int _) hlocks hK hw dX4_transcribe_96 (Nat.le_of_ble_eq_true rfl) (Nat.le_of_ble_eq_true rfl) (Or.inr (Or.inr ⟨c_7, ii, jj, nn, st, rfl, rfl, rfl, hb1, hb2, hst, by rw [if_neg (by have := le_of_c (by omega) (by omega) c_81; omega)], frT, f_bv, f_bs⟩))
            · skip
              refine lv_bipush (v := -10) hx hb dX4_transcribe_84 (by decide) ?_
              refine lv_iload hx hb dX4_transcribe_86 (lv_at hl 0 rfl) ?_
              refine lv_isub hx hb dX4_transcribe_88 ?_
              refine lv_goto (tgt := 96) hx hb dX4_transcribe_89 (by decide) ?_
              exact ct_iret hx hb hr (vp_nar_int _) hlocks hK hw dX4_transcribe_96 (Nat.le_of_ble_eq_true rfl) (Nat.le_of_ble_eq_true rfl) (Or.inr (Or.inr ⟨c_7, ii, jj, nn, st, rfl, rfl, rfl, hb1, hb2, hst, by rw [if_pos (lt_of_c (by omega) (by omega) c_81)], frT, f_bv, f_bs⟩))
          · exact absurd c_39 (by decide)
        · skip
          refine lv_if_ne (tgt := 45) hx hb dX4_transcribe_39 (by decide) (fun c_39 => ?_) (fun c_39 => ?_)
          · exact absurd rfl c_39
          · skip
            refine lv_bipush (v := -3) hx hb dX4_transcribe_42 (by decide) ?_
            exact ct_iret hx hb hr (vp_nar_int _) hlocks hK hw dX4_transcribe_44 (Nat.le_of_ble_eq_true rfl) (Nat.le_of_ble_eq_true rfl) (Or.inr (Or.inl ⟨c_7, fun q => hq_36 q.2, rfl, rfl⟩))
    · skip
      refine lv_if_eq (tgt := 42) hx hb dX4_transcribe_24 (by decide) (fun c_24 => ?_) (fun c_24 => ?_)
      · skip
        refine lv_bipush (v := -3) hx hb dX4_transcribe_42 (by decide) ?_
        exact ct_iret hx hb hr (vp_nar_int _) hlocks hK hw dX4_transcribe_44 (Nat.le_of_ble_eq_true rfl) (Nat.le_of_ble_eq_true rfl) (Or.inr (Or.inl ⟨c_7, fun q => hq_21 q.1, rfl, rfl⟩))
      · exact absurd rfl c_24
  · skip
    refine lv_iload_n hx hb dX4_transcribe_10 rfl (lv_at hl 0 rfl) ?_
    exact ct_iret hx hb hr (vp_nar_int _) hlocks hK hw dX4_transcribe_11 (Nat.le_of_ble_eq_true rfl) (Nat.le_of_ble_eq_true rfl) (Or.inl ⟨c_7, rfl, rfl⟩)

set_option maxHeartbeats 4000000 in
set_option maxRecDepth 100000 in
theorem c_X4_firstDifference (l : Launch) (G : va_G) (Y : Nat → ClassId) (h : PH)  (o v1 so1 : Nat) (s1 : Int32) (n1 : Nat) (V1 : Nat → Int64) (T1 : Nat → Int32) (b v2 so2 : Nat) (s2 : Int32) (n2 : Nat) (V2 : Nat → Int64) (T2 : Nat → Int32)  (f_o : pAt h o (oBook s1 v1 so1)) (f_ov : pAt h v1 (aJ Y n1 V1)) (f_os : pAt h so1 (aI Y n1 T1)) (f_b : pAt h b (oBook s2 v2 so2)) (f_bv : pAt h v2 (aJ Y n2 V2)) (f_bs : pAt h so2 (aI Y n2 T2)) (hn1 : n1 ≤ 40) (hn2 : n2 ≤ 40) : ctI l G Y pw yX4_firstDifference wsX4_firstDifference ({ frames := 1, cells := 0, slots := 0, locals := 60 }) [.ref o, .ref b] h (fun r h' => h' = h ∧ cDiff n1 n2 V1 V2 T1 T2 r) := by
  refine ctI.of (cc := cX4_firstDifference) (maxL := 4) (ret := (some .int)) (by decide +kernel) rfl (Nat.le_of_ble_eq_true rfl) ?_
  intro A p e s m below meth c ls hB
  obtain ⟨F, hr, hlocks, hnm, hK, hA, hw, hl⟩ := hB
  obtain ⟨hx, hb, hml, hown, hts⟩ := id F
  have hl : lv_has ls 4 [(0, .ref o), (1, .ref b)] := hl
  have hi0 : ∀ w ∈ wsX00, w ∈ wsX4_firstDifference := by decide +kernel
  have hl69 : Cond.fieldLink RX4 69 "Scriptorium$Book" "values" "[J" ∈ wsX4_firstDifference := by decide +kernel
  have hl216 : Cond.fieldLink RX4 216 "Scriptorium$Book" "sorts" "[I" ∈ wsX4_firstDifference := by decide +kernel
  refine lv_aload_n hx hb dX4_firstDifference_0 rfl (lv_at hl 0 rfl) ?_
  refine (c_X0_length l G Y _ _ _ _ _ _ _ (fun _ => 0) f_o f_ov).callV F (cwV 0 hts gX4_firstDifference_X0_length rfl rfl rfl (by decide +kernel) ⟨Nat.le_of_ble_eq_true rfl, Nat.le_of_ble_eq_true rfl⟩) hK hw hA (p_recv hK hw f_o rfl) rfl rfl hl.1 (Nat.le_of_ble_eq_true rfl) dX4_firstDifference_1 ⟨Nat.le_of_ble_eq_true rfl, Nat.le_of_ble_eq_true rfl⟩ (fun r_1 h_1 H locs hp_1 hw => ?_)
  obtain ⟨eh_1, rfl⟩ := hp_1
  rw [eh_1] at hw
  refine lv_aload_n hx hb dX4_firstDifference_4 rfl (lv_at hl 1 rfl) ?_
  refine (c_X0_length l G Y _ _ _ _ _ _ _ (fun _ => 0) f_b f_bv).callV F (cwV 0 hts gX4_firstDifference_X0_length rfl rfl rfl (by decide +kernel) ⟨Nat.le_of_ble_eq_true rfl, Nat.le_of_ble_eq_true rfl⟩) hK hw hA (p_recv hK hw f_b rfl) rfl rfl hl.1 (Nat.le_of_ble_eq_true rfl) dX4_firstDifference_5 ⟨Nat.le_of_ble_eq_true rfl, Nat.le_of_ble_eq_true rfl⟩ (fun r_5 h_5 H locs hp_5 hw => ?_)
  obtain ⟨eh_5, rfl⟩ := hp_5
  rw [eh_5] at hw
  refine va_mmin hx hb (hml.trans hl.1.symm) hown (hts (.methodLink RX4 106 Lib.Math.min.name) (by decide +kernel)) (hts (.static Lib.Math.min.name) (by decide +kernel)) (hts (.initialized "java/lang/Math") (by decide +kernel)) (hts (.code Lib.Math.min.name Lib.Math.min.code 2 (some .int)) (by decide +kernel)) (Nat.le_of_ble_eq_true rfl) (Nat.le_of_ble_eq_true rfl) (Nat.le_of_ble_eq_true rfl) (Nat.le_of_ble_eq_true rfl) dX4_firstDifference_8 ?_
  refine lv_topi (fun v9 ev9 => ?_)
  obtain ⟨nm, h9, h8, h7⟩ : ∃ nm : Nat, v9 = nI nm ∧ (nm ≤ n1 ∧ nm ≤ n2) ∧ (nm = n1 ∨ nm = n2) := by
    by_cases q : nI n2 < nI n1
    · rw [if_pos q] at ev9
      have := (nI_ltI (by omega) (by omega)).mp q
      exact ⟨n2, ev9, ⟨by omega, Nat.le_refl _⟩, Or.inr rfl⟩
    · rw [if_neg q] at ev9
      have : ¬ n2 < n1 := fun z => q ((nI_ltI (by omega) (by omega)).mpr z)
      exact ⟨n1, ev9, ⟨Nat.le_refl _, by omega⟩, Or.inl rfl⟩
  subst h9
  refine lv_istore_n (lv' := [(2, .int _), (0, .ref _), (1, .ref _)]) hx hb dX4_firstDifference_11 rfl hl (by decide) rfl (fun ls hl => ?_)
  refine lv_iconst (v := 0) hx hb dX4_firstDifference_12 (by decide) ?_
  refine lv_istore_n (lv' := [(3, .int _), (2, .int _), (0, .ref _), (1, .ref _)]) hx hb dX4_firstDifference_13 rfl hl (by decide) rfl (fun ls hl => ?_)
  refine W_loop (σ := Nat) 14 (fun n (t : Nat) H locs ls => n = nm - t ∧ t ≤ nm ∧ (∀ j, j < t → V1 j = V2 j ∧ T1 j = T2 j) ∧ wW G A s.heap (pw h) H locs ∧ lv_has ls 4 [(3, .int (nI t)), (2, .int (nI nm)), (0, .ref o), (1, .ref b)]) ?_ (n := nm) (x := 0) ⟨rfl, by omega, lt_0, hw, hl⟩
  intro n t H locs ls hI ih
  obtain ⟨hn, ht, hall, hw, hl⟩ := hI
  refine lv_iload_n hx hb dX4_firstDifference_14 rfl (lv_at hl 0 rfl) ?_
  refine lv_iload_n hx hb dX4_firstDifference_15 rfl (lv_at hl 1 rfl) ?_
  refine lv_icmp_ge (tgt := 58) hx hb dX4_firstDifference_16 (by decide) (fun c_16 => ?_) (fun c_16 => ?_)
  · skip
    have htn : t = nm := by
      have := le_of_c (by omega) (by omega) c_16
      omega
    refine lv_aload_n hx hb dX4_firstDifference_58 rfl (lv_at hl 2 rfl) ?_
    refine (c_X0_length l G Y _ _ _ _ _ _ _ (fun _ => 0) f_o f_ov).callV F (cwV 0 hts gX4_firstDifference_X0_length rfl rfl rfl (by decide +kernel) ⟨Nat.le_of_ble_eq_true rfl, Nat.le_of_ble_eq_true rfl⟩) hK hw hA (p_recv hK hw f_o rfl) rfl rfl hl.1 (Nat.le_of_ble_eq_true rfl) dX4_firstDifference_59 ⟨Nat.le_of_ble_eq_true rfl, Nat.le_of_ble_eq_true rfl⟩ (fun r_59 h_59 H locs hp_59 hw => ?_)
    obtain ⟨eh_59, rfl⟩ := hp_59
    rw [eh_59] at hw
    refine lv_aload_n hx hb dX4_firstDifference_62 rfl (lv_at hl 3 rfl) ?_
    refine (c_X0_length l G Y _ _ _ _ _ _ _ (fun _ => 0) f_b f_bv).callV F (cwV 0 hts gX4_firstDifference_X0_length rfl rfl rfl (by decide +kernel) ⟨Nat.le_of_ble_eq_true rfl, Nat.le_of_ble_eq_true rfl⟩) hK hw hA (p_recv hK hw f_b rfl) rfl rfl hl.1 (Nat.le_of_ble_eq_true rfl) dX4_firstDifference_63 ⟨Nat.le_of_ble_eq_true rfl, Nat.le_of_ble_eq_true rfl⟩ (fun r_63 h_63 H locs hp_63 hw => ?_)
    obtain ⟨eh_63, rfl⟩ := hp_63
    rw [eh_63] at hw
    refine lv_icmp_ne (tgt := 74) hx hb dX4_firstDifference_66 (by decide) (fun c_66 => ?_) (fun c_66 => ?_)
    · skip
      refine lv_iload_n hx hb dX4_firstDifference_74 rfl (lv_at hl 1 rfl) ?_
      exact ct_iret hx hb hr (vp_nar_int _) hlocks hK hw dX4_firstDifference_75 (Nat.le_of_ble_eq_true rfl) (Nat.le_of_ble_eq_true rfl) ⟨rfl, Or.inr ⟨fun j h1 h2 => hall j (by omega), by
          have q : n1 ≠ n2 := fun q => c_66 (by rw [q])
          rcases h7 with rfl | rfl
          · exact Or.inr (Or.inl ⟨by omega, rfl⟩)
          · exact Or.inr (Or.inr ⟨by omega, rfl⟩)⟩⟩
    · skip
      refine lv_bipush (v := -60) hx hb dX4_firstDifference_69 (by decide) ?_
      refine lv_goto (tgt := 75) hx hb dX4_firstDifference_71 (by decide) ?_
      exact ct_iret hx hb hr (vp_nar_int _) hlocks hK hw dX4_firstDifference_75 (Nat.le_of_ble_eq_true rfl) (Nat.le_of_ble_eq_true rfl) ⟨rfl, Or.inr ⟨fun j h1 h2 => hall j (by omega), Or.inl ⟨(nI_eq (by omega) (by omega)).mp c_66, rfl⟩⟩⟩
  · skip
    have htn : t < nm := lt_of_c (by omega) (by omega) c_16
    have ect : cl (nI t) = t := cl_nI (by omega)
    refine lv_aload_n hx hb dX4_firstDifference_19 rfl (lv_at hl 2 rfl) ?_
    refine p_get (ci := 0) (C := RX0) (T := TX0) (N := 3) 1 F rfl hi0 hl69 (by decide) hK hw f_o rfl dX4_firstDifference_20 ?_
    refine lv_iload_n hx hb dX4_firstDifference_23 rfl (lv_at hl 0 rfl) ?_
    refine p_ldJ F hK hw f_ov (vp_in_nI (show t < n1 by omega) (by omega)) dX4_firstDifference_24 ?_
    refine lv_aload_n hx hb dX4_firstDifference_25 rfl (lv_at hl 3 rfl) ?_
    refine p_get (ci := 0) (C := RX0) (T := TX0) (N := 3) 1 F rfl hi0 hl69 (by decide) hK hw f_b rfl dX4_firstDifference_26 ?_
    refine lv_iload_n hx hb dX4_firstDifference_29 rfl (lv_at hl 0 rfl) ?_
    refine p_ldJ F hK hw f_bv (vp_in_nI (show t < n2 by omega) (by omega)) dX4_firstDifference_30 ?_
    rw [ect]
    refine W.lcmp hx hb dX4_firstDifference_31 ?_
    refine lv_if_ne (tgt := 50) hx hb dX4_firstDifference_32 (by decide) (fun c_32 => ?_) (fun c_32 => ?_)
    · skip
      refine lv_iload_n hx hb dX4_firstDifference_50 rfl (lv_at hl 0 rfl) ?_
      exact ct_iret hx hb hr (vp_nar_int _) hlocks hK hw dX4_firstDifference_51 (Nat.le_of_ble_eq_true rfl) (Nat.le_of_ble_eq_true rfl) ⟨rfl, Or.inl ⟨t, by omega, by omega, hall, fun q => c_32 (lcmp0.mpr q.1), rfl⟩⟩
    · skip
      refine lv_aload_n hx hb dX4_firstDifference_35 rfl (lv_at hl 2 rfl) ?_
      refine p_get (ci := 0) (C := RX0) (T := TX0) (N := 3) 2 F rfl hi0 hl216 (by decide) hK hw f_o rfl dX4_firstDifference_36 ?_
      refine lv_iload_n hx hb dX4_firstDifference_39 rfl (lv_at hl 0 rfl) ?_
      refine p_ildI F hK hw f_os (vp_in_nI (show t < n1 by omega) (by omega)) dX4_firstDifference_40 ?_
      refine lv_aload_n hx hb dX4_firstDifference_41 rfl (lv_at hl 3 rfl) ?_
      refine p_get (ci := 0) (C := RX0) (T := TX0) (N := 3) 2 F rfl hi0 hl216 (by decide) hK hw f_b rfl dX4_firstDifference_42 ?_
      refine lv_iload_n hx hb dX4_firstDifference_45 rfl (lv_at hl 0 rfl) ?_
      refine p_ildI F hK hw f_bs (vp_in_nI (show t < n2 by omega) (by omega)) dX4_firstDifference_46 ?_
      rw [ect]
      refine lv_icmp_eq (tgt := 52) hx hb dX4_firstDifference_47 (by decide) (fun c_47 => ?_) (fun c_47 => ?_)
      · skip
        refine lv_iinc (lv' := [(3, .int _), (2, .int _), (0, .ref _), (1, .ref _)]) hx hb dX4_firstDifference_52 hl (k := 0) rfl rfl (by decide) rfl (fun ls hl => ?_)
        refine lv_goto (tgt := 14) hx hb dX4_firstDifference_55 (by decide) ?_
        exact ih _ (t + 1) _ _ _ (by omega) ⟨rfl, by omega, lt_s hall ⟨lcmp0.mp c_32, c_47⟩, hw, by rw [nI_succ]; exact hl⟩
      · skip
        refine lv_iload_n hx hb dX4_firstDifference_50 rfl (lv_at hl 0 rfl) ?_
        exact ct_iret hx hb hr (vp_nar_int _) hlocks hK hw dX4_firstDifference_51 (Nat.le_of_ble_eq_true rfl) (Nat.le_of_ble_eq_true rfl) ⟨rfl, Or.inl ⟨t, by omega, by omega, hall, fun q => c_47 q.2, rfl⟩⟩
