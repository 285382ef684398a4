set_option maxHeartbeats 4000000 in
set_option maxRecDepth 100000 in
theorem c_m_thrown (l : Launch) (G : va_G) (Y : Nat → ClassId) (x : Nat) (ad : Nat → Nat) (d sc sz : Nat → Int32) (sg : Nat → Int64) (ik cp wt wa ch ct : Nat → Int32) (th : Int32)   : ctI l G Y (mW Y x ad) yX5_thrown wsX5_thrown ({ frames := 0, cells := 0, slots := 0, locals := 0 }) [.ref x] (d, sc, sz, sg, ik, cp, wt, wa, ch, ct, th) (fun r u' => r = th ∧ u' = (d, sc, sz, sg, ik, cp, wt, wa, ch, ct, th)) := by
  refine ctI.of (cc := cX5_thrown) (maxL := 1) (ret := (some .int)) (by decide) rfl (Nat.le_of_ble_eq_true rfl) ?_
  intro A p e s m below meth c ls hB
  obtain ⟨F, hr, hlocks, hnm, hK, hA, hw, hl⟩ := hB
  obtain ⟨hx, hb, hml, hown, hts⟩ := id F
  have hl : lv_has ls 1 [(0, .ref x)] := hl
  have hi : ∀ w ∈ wsX50, w ∈ wsX5_thrown := by decide +kernel
  have hl41 : Cond.fieldLink RX5 41 "ScriptoriumModel" "thrown" "I" ∈ wsX5_thrown := by decide +kernel
  refine lv_aload_n hx hb dX5_thrown_0 rfl (lv_at hl 0 rfl) ?_
  refine m_get10 F hi hl41 hK hw dX5_thrown_1 ?_
  exact ct_iret hx hb hr (vp_nar_int _) hlocks hK hw dX5_thrown_4 (Nat.le_of_ble_eq_true rfl) (Nat.le_of_ble_eq_true rfl) ⟨rfl, rfl⟩

set_option maxHeartbeats 4000000 in
set_option maxRecDepth 100000 in
theorem c_m_isDesk (l : Launch) (G : va_G) (Y : Nat → ClassId) (x : Nat) (ad : Nat → Nat) (d sc sz : Nat → Int32) (sg : Nat → Int64) (ik cp wt wa ch ct : Nat → Int32) (th : Int32) (p0 : Int32)  : ctI l G Y (mW Y x ad) yX5_isDesk wsX5_isDesk ({ frames := 0, cells := 0, slots := 0, locals := 0 }) [.int p0] (d, sc, sz, sg, ik, cp, wt, wa, ch, ct, th) (fun r u' => u' = (d, sc, sz, sg, ik, cp, wt, wa, ch, ct, th) ∧ ((isD p0 ∧ r = 1) ∨ (¬ isD p0 ∧ r = 0))) := by
  refine ctI.of (cc := cX5_isDesk) (maxL := 1) (ret := (some .boolean)) (by decide) rfl (Nat.le_of_ble_eq_true rfl) ?_
  intro A p e s m below meth c ls hB
  obtain ⟨F, hr, hlocks, hnm, hK, hA, hw, hl⟩ := hB
  obtain ⟨hx, hb, hml, hown, hts⟩ := id F
  have hl : lv_has ls 1 [(0, .int p0)] := hl
  refine lv_iload_n hx hb dX5_isDesk_0 rfl (lv_at hl 0 rfl) ?_
  refine lv_if_lt (tgt := 14) hx hb dX5_isDesk_1 (by decide) (fun c_1 => ?_) (fun c_1 => ?_)
  · skip
    refine lv_iconst (v := 0) hx hb dX5_isDesk_14 (by decide) ?_
    exact ct_iret hx hb hr rfl hlocks hK hw dX5_isDesk_15 (Nat.le_of_ble_eq_true rfl) (Nat.le_of_ble_eq_true rfl) (by first | exact ⟨rfl, Or.inl ⟨⟨c_1, c_7⟩, rfl⟩⟩ | exact ⟨rfl, Or.inr ⟨fun h => h.1 c_1, rfl⟩⟩ | exact ⟨rfl, Or.inr ⟨fun h => h.2 c_7, rfl⟩⟩)
  · skip
    refine lv_iload_n hx hb dX5_isDesk_4 rfl (lv_at hl 0 rfl) ?_
    refine lv_bipush (v := 6) hx hb dX5_isDesk_5 (by decide) ?_
    refine lv_icmp_ge (tgt := 14) hx hb dX5_isDesk_7 (by decide) (fun c_7 => ?_) (fun c_7 => ?_)
    · skip
      refine lv_iconst (v := 0) hx hb dX5_isDesk_14 (by decide) ?_
      exact ct_iret hx hb hr rfl hlocks hK hw dX5_isDesk_15 (Nat.le_of_ble_eq_true rfl) (Nat.le_of_ble_eq_true rfl) (by first | exact ⟨rfl, Or.inl ⟨⟨c_1, c_7⟩, rfl⟩⟩ | exact ⟨rfl, Or.inr ⟨fun h => h.1 c_1, rfl⟩⟩ | exact ⟨rfl, Or.inr ⟨fun h => h.2 c_7, rfl⟩⟩)
    · skip
      refine lv_iconst (v := 1) hx hb dX5_isDesk_10 (by decide) ?_
      refine lv_goto (tgt := 15) hx hb dX5_isDesk_11 (by decide) ?_
      exact ct_iret hx hb hr rfl hlocks hK hw dX5_isDesk_15 (Nat.le_of_ble_eq_true rfl) (Nat.le_of_ble_eq_true rfl) (by first | exact ⟨rfl, Or.inl ⟨⟨c_1, c_7⟩, rfl⟩⟩ | exact ⟨rfl, Or.inr ⟨fun h => h.1 c_1, rfl⟩⟩ | exact ⟨rfl, Or.inr ⟨fun h => h.2 c_7, rfl⟩⟩)

set_option maxHeartbeats 4000000 in
set_option maxRecDepth 100000 in
theorem c_m_isScribe (l : Launch) (G : va_G) (Y : Nat → ClassId) (x : Nat) (ad : Nat → Nat) (d sc sz : Nat → Int32) (sg : Nat → Int64) (ik cp wt wa ch ct : Nat → Int32) (th : Int32) (p0 : Int32)  : ctI l G Y (mW Y x ad) yX5_isScribe wsX5_isScribe ({ frames := 0, cells := 0, slots := 0, locals := 0 }) [.int p0] (d, sc, sz, sg, ik, cp, wt, wa, ch, ct, th) (fun r u' => u' = (d, sc, sz, sg, ik, cp, wt, wa, ch, ct, th) ∧ ((isS p0 ∧ r = 1) ∨ (¬ isS p0 ∧ r = 0))) := by
  refine ctI.of (cc := cX5_isScribe) (maxL := 1) (ret := (some .boolean)) (by decide) rfl (Nat.le_of_ble_eq_true rfl) ?_
  intro A p e s m below meth c ls hB
  obtain ⟨F, hr, hlocks, hnm, hK, hA, hw, hl⟩ := hB
  obtain ⟨hx, hb, hml, hown, hts⟩ := id F
  have hl : lv_has ls 1 [(0, .int p0)] := hl
  refine lv_iload_n hx hb dX5_isScribe_0 rfl (lv_at hl 0 rfl) ?_
  refine lv_if_lt (tgt := 13) hx hb dX5_isScribe_1 (by decide) (fun c_1 => ?_) (fun c_1 => ?_)
  · skip
    refine lv_iconst (v := 0) hx hb dX5_isScribe_13 (by decide) ?_
    exact ct_iret hx hb hr rfl hlocks hK hw dX5_isScribe_14 (Nat.le_of_ble_eq_true rfl) (Nat.le_of_ble_eq_true rfl) (by first | exact ⟨rfl, Or.inl ⟨⟨c_1, c_6⟩, rfl⟩⟩ | exact ⟨rfl, Or.inr ⟨fun h => h.1 c_1, rfl⟩⟩ | exact ⟨rfl, Or.inr ⟨fun h => h.2 c_6, rfl⟩⟩)
  · skip
    refine lv_iload_n hx hb dX5_isScribe_4 rfl (lv_at hl 0 rfl) ?_
    refine lv_iconst (v := 3) hx hb dX5_isScribe_5 (by decide) ?_
    refine lv_icmp_ge (tgt := 13) hx hb dX5_isScribe_6 (by decide) (fun c_6 => ?_) (fun c_6 => ?_)
    · skip
      refine lv_iconst (v := 0) hx hb dX5_isScribe_13 (by decide) ?_
      exact ct_iret hx hb hr rfl hlocks hK hw dX5_isScribe_14 (Nat.le_of_ble_eq_true rfl) (Nat.le_of_ble_eq_true rfl) (by first | exact ⟨rfl, Or.inl ⟨⟨c_1, c_6⟩, rfl⟩⟩ | exact ⟨rfl, Or.inr ⟨fun h => h.1 c_1, rfl⟩⟩ | exact ⟨rfl, Or.inr ⟨fun h => h.2 c_6, rfl⟩⟩)
    · skip
      refine lv_iconst (v := 1) hx hb dX5_isScribe_9 (by decide) ?_
      refine lv_goto (tgt := 14) hx hb dX5_isScribe_10 (by decide) ?_
      exact ct_iret hx hb hr rfl hlocks hK hw dX5_isScribe_14 (Nat.le_of_ble_eq_true rfl) (Nat.le_of_ble_eq_true rfl) (by first | exact ⟨rfl, Or.inl ⟨⟨c_1, c_6⟩, rfl⟩⟩ | exact ⟨rfl, Or.inr ⟨fun h => h.1 c_1, rfl⟩⟩ | exact ⟨rfl, Or.inr ⟨fun h => h.2 c_6, rfl⟩⟩)

set_option maxHeartbeats 4000000 in
set_option maxRecDepth 100000 in
theorem c_m_isUsed (l : Launch) (G : va_G) (Y : Nat → ClassId) (x : Nat) (ad : Nat → Nat) (d sc sz : Nat → Int32) (sg : Nat → Int64) (ik cp wt wa ch ct : Nat → Int32) (th : Int32) (p0 : Int32) (p1 : Int32)  : ctI l G Y (mW Y x ad) yX5_isUsed wsX5_isUsed ({ frames := 0, cells := 0, slots := 0, locals := 0 }) [.ref x, .int p0, .int p1] (d, sc, sz, sg, ik, cp, wt, wa, ch, ct, th) (fun r u' => u' = (d, sc, sz, sg, ik, cp, wt, wa, ch, ct, th) ∧ ((mUsed d p0 p1 ∧ r = 1) ∨ (¬ mUsed d p0 p1 ∧ r = 0))) := by
  refine ctI.of (cc := cX5_isUsed) (maxL := 4) (ret := (some .boolean)) (by decide) rfl (Nat.le_of_ble_eq_true rfl) ?_
  intro A p e s m below meth c ls hB
  obtain ⟨F, hr, hlocks, hnm, hK, hA, hw, hl⟩ := hB
  obtain ⟨hx, hb, hml, hown, hts⟩ := id F
  have hl : lv_has ls 4 [(0, .ref x), (1, .int p0), (2, .int p1)] := hl
  have hi : ∀ w ∈ wsX50, w ∈ wsX5_isUsed := by decide +kernel
  have hl7 : Cond.fieldLink RX5 7 "ScriptoriumModel" "desk" "[I" ∈ wsX5_isUsed := by decide +kernel
  refine lv_iconst (v := 0) hx hb dX5_isUsed_0 (by decide) ?_
  refine lv_istore_n (lv' := [(3, .int _), (0, .ref _), (1, .int _), (2, .int _)]) hx hb dX5_isUsed_1 rfl hl (by decide) rfl (fun ls hl => ?_)
  refine W_loop (σ := Nat) 2 (fun n (k : Nat) H locs ls => n = 6 - k ∧ k ≤ 6 ∧ (∀ j, j < k → ¬ (nI j ≠ p1 ∧ d j = p0)) ∧ wW G A s.heap (mW Y x ad (d, sc, sz, sg, ik, cp, wt, wa, ch, ct, th)) H locs ∧ lv_has ls 4 [(3, .int (nI k)), (0, .ref x), (1, .int p0), (2, .int p1)]) ?_ (n := 6) (x := 0) ⟨rfl, by omega, lt_0, hw, hl⟩
  intro n k H locs ls hI ih
  obtain ⟨hn, hk, hall, hw, hl⟩ := hI
  refine lv_iload_n hx hb dX5_isUsed_2 rfl (lv_at hl 0 rfl) ?_
  refine lv_bipush (v := 6) hx hb dX5_isUsed_3 (by decide) ?_
  refine lv_icmp_ge (tgt := 31) hx hb dX5_isUsed_5 (by decide) (fun c_5 => ?_) (fun c_5 => ?_)
  · skip
    have hk6 : k = 6 := by
      rcases Nat.lt_or_ge k 6 with q | q
      · exact absurd c_5 (nI_ge q (by decide))
      · omega
    refine lv_iconst (v := 0) hx hb dX5_isUsed_31 (by decide) ?_
    exact ct_iret hx hb hr rfl hlocks hK hw dX5_isUsed_32 (Nat.le_of_ble_eq_true rfl) (Nat.le_of_ble_eq_true rfl) ⟨rfl, Or.inr ⟨fun ⟨j, h1, h2, h3⟩ => hall j (by omega) ⟨h2, h3⟩, rfl⟩⟩
  · skip
    have hk6 : k < 6 := by
      rcases Nat.lt_or_ge k 6 with q | q
      · exact q
      · exact absurd (show (6 : Int32) ≤ nI k from nI_le (a := 6) q (by omega)) c_5
    have hck : cl (nI k) = k := nI_clamp (by omega)
    refine lv_iload_n hx hb dX5_isUsed_8 rfl (lv_at hl 0 rfl) ?_
    refine lv_iload_n hx hb dX5_isUsed_9 rfl (lv_at hl 3 rfl) ?_
    refine lv_icmp_eq (tgt := 25) hx hb dX5_isUsed_10 (by decide) (fun c_10 => ?_) (fun c_10 => ?_)
    · skip
      refine lv_iinc (lv' := [(3, .int _), (0, .ref _), (1, .int _), (2, .int _)]) hx hb dX5_isUsed_25 hl (k := 0) rfl rfl (by decide) rfl (fun ls hl => ?_)
      refine lv_goto (tgt := 2) hx hb dX5_isUsed_28 (by decide) ?_
      exact ih _ (k + 1) _ _ _ (by omega) ⟨rfl, by omega, lt_s hall (by first | exact fun h => h.1 c_10 | exact fun h => c_20 (by rw [hck]; exact h.2)), hw, by rw [nI_succ]; exact hl⟩
    · skip
      refine lv_aload_n hx hb dX5_isUsed_13 rfl (lv_at hl 1 rfl) ?_
      refine m_get0 F hi hl7 hK hw dX5_isUsed_14 ?_
      refine lv_iload_n hx hb dX5_isUsed_17 rfl (lv_at hl 0 rfl) ?_
      refine m_ld0 F hK hw (vp_in_nI hk6 (by decide)) dX5_isUsed_18 ?_
      refine lv_iload_n hx hb dX5_isUsed_19 rfl (lv_at hl 2 rfl) ?_
      refine lv_icmp_ne (tgt := 25) hx hb dX5_isUsed_20 (by decide) (fun c_20 => ?_) (fun c_20 => ?_)
      · skip
        refine lv_iinc (lv' := [(3, .int _), (0, .ref _), (1, .int _), (2, .int _)]) hx hb dX5_isUsed_25 hl (k := 0) rfl rfl (by decide) rfl (fun ls hl => ?_)
        refine lv_goto (tgt := 2) hx hb dX5_isUsed_28 (by decide) ?_
        exact ih _ (k + 1) _ _ _ (by omega) ⟨rfl, by omega, lt_s hall (by first | exact fun h => h.1 c_10 | exact fun h => c_20 (by rw [hck]; exact h.2)), hw, by rw [nI_succ]; exact hl⟩
      · skip
        refine lv_iconst (v := 1) hx hb dX5_isUsed_23 (by decide) ?_
        exact ct_iret hx hb hr rfl hlocks hK hw dX5_isUsed_24 (Nat.le_of_ble_eq_true rfl) (Nat.le_of_ble_eq_true rfl) ⟨rfl, Or.inl ⟨⟨k, hk6, c_10, by rw [← hck]; exact c_20⟩, rfl⟩⟩

set_option maxHeartbeats 4000000 in
set_option maxRecDepth 100000 in
theorem c_m_isPictures (l : Launch) (G : va_G) (Y : Nat → ClassId) (x : Nat) (ad : Nat → Nat) (d sc sz : Nat → Int32) (sg : Nat → Int64) (ik cp wt wa ch ct : Nat → Int32) (th : Int32) (p0 : Int32) (h0 : isD p0) : ctI l G Y (mW Y x ad) yX5_isPictures wsX5_isPictures ({ frames := 0, cells := 0, slots := 0, locals := 0 }) [.ref x, .int p0] (d, sc, sz, sg, ik, cp, wt, wa, ch, ct, th) (fun r u' => u' = (d, sc, sz, sg, ik, cp, wt, wa, ch, ct, th) ∧ ((5 < sc (cl p0) ∧ r = 1) ∨ (¬ 5 < sc (cl p0) ∧ r = 0))) := by
  refine ctI.of (cc := cX5_isPictures) (maxL := 2) (ret := (some .boolean)) (by decide) rfl (Nat.le_of_ble_eq_true rfl) ?_
  intro A p e s m below meth c ls hB
  obtain ⟨F, hr, hlocks, hnm, hK, hA, hw, hl⟩ := hB
  obtain ⟨hx, hb, hml, hown, hts⟩ := id F
  have hl : lv_has ls 2 [(0, .ref x), (1, .int p0)] := hl
  have hi : ∀ w ∈ wsX50, w ∈ wsX5_isPictures := by decide +kernel
  have hl13 : Cond.fieldLink RX5 13 "ScriptoriumModel" "script" "[I" ∈ wsX5_isPictures := by decide +kernel
  refine lv_aload_n hx hb dX5_isPictures_0 rfl (lv_at hl 0 rfl) ?_
  refine m_get1 F hi hl13 hK hw dX5_isPictures_1 ?_
  refine lv_iload_n hx hb dX5_isPictures_4 rfl (lv_at hl 1 rfl) ?_
  refine m_ld1 F hK hw h0.in dX5_isPictures_5 ?_
  refine lv_iconst (v := 5) hx hb dX5_isPictures_6 (by decide) ?_
  refine lv_icmp_le (tgt := 14) hx hb dX5_isPictures_7 (by decide) (fun c_7 => ?_) (fun c_7 => ?_)
  · skip
    refine lv_iconst (v := 0) hx hb dX5_isPictures_14 (by decide) ?_
    exact ct_iret hx hb hr rfl hlocks hK hw dX5_isPictures_15 (Nat.le_of_ble_eq_true rfl) (Nat.le_of_ble_eq_true rfl) (by first | exact ⟨rfl, Or.inl ⟨Int32.not_le.mp c_7, rfl⟩⟩ | exact ⟨rfl, Or.inr ⟨Int32.not_lt.mpr c_7, rfl⟩⟩)
  · skip
    refine lv_iconst (v := 1) hx hb dX5_isPictures_10 (by decide) ?_
    refine lv_goto (tgt := 15) hx hb dX5_isPictures_11 (by decide) ?_
    exact ct_iret hx hb hr rfl hlocks hK hw dX5_isPictures_15 (Nat.le_of_ble_eq_true rfl) (Nat.le_of_ble_eq_true rfl) (by first | exact ⟨rfl, Or.inl ⟨Int32.not_le.mp c_7, rfl⟩⟩ | exact ⟨rfl, Or.inr ⟨Int32.not_lt.mpr c_7, rfl⟩⟩)

set_option maxHeartbeats 4000000 in
set_option maxRecDepth 100000 in
theorem c_m_may (l : Launch) (G : va_G) (Y : Nat → ClassId) (x : Nat) (ad : Nat → Nat) (d sc sz : Nat → Int32) (sg : Nat → Int64) (ik cp wt wa ch ct : Nat → Int32) (th : Int32) (p0 : Int32) (v0 : Int64) (h0 : isD p0) : ctI l G Y (mW Y x ad) yX5_may wsX5_may ({ frames := 0, cells := 0, slots := 0, locals := 0 }) [.ref x, .int p0, .long v0] (d, sc, sz, sg, ik, cp, wt, wa, ch, ct, th) (fun r u' => u' = (d, sc, sz, sg, ik, cp, wt, wa, ch, ct, th) ∧ ((mMay (sc (cl p0)) v0 ∧ r = 1) ∨ (¬ mMay (sc (cl p0)) v0 ∧ r = 0))) := by
  refine ctI.of (cc := cX5_may) (maxL := 5) (ret := (some .boolean)) (by decide) rfl (Nat.le_of_ble_eq_true rfl) ?_
  intro A p e s m below meth c ls hB
  obtain ⟨F, hr, hlocks, hnm, hK, hA, hw, hl⟩ := hB
  obtain ⟨hx, hb, hml, hown, hts⟩ := id F
  have hl : lv_has ls 5 [(0, .ref x), (1, .int p0), (2, .long v0)] := hl
  have hi : ∀ w ∈ wsX50, w ∈ wsX5_may := by decide +kernel
  have hl13 : Cond.fieldLink RX5 13 "ScriptoriumModel" "script" "[I" ∈ wsX5_may := by decide +kernel
  refine lv_lload_n hx hb dX5_may_0 rfl (lv_at hl 2 rfl) ?_
  refine lv_ldc2 hx hb hown (hts (.constantLong RX5 53 (3)) (by decide +kernel)) dX5_may_1 ?_
  refine lv_land hx hb dX5_may_4 ?_
  refine lv_l2i hx hb dX5_may_5 rfl ?_
  refine lv_istore (lv' := [(4, .int _), (0, .ref _), (1, .int _), (2, .long _)]) hx hb dX5_may_6 hl (by decide) rfl (fun ls hl => ?_)
  refine lv_aload_n hx hb dX5_may_8 rfl (lv_at hl 1 rfl) ?_
  refine m_get1 F hi hl13 hK hw dX5_may_9 ?_
  refine lv_iload_n hx hb dX5_may_12 rfl (lv_at hl 2 rfl) ?_
  refine m_ld1 F hK hw h0.in dX5_may_13 ?_
  refine lv_bipush (v := 7) hx hb dX5_may_14 (by decide) ?_
  refine lv_icmp_lt (tgt := 38) hx hb dX5_may_16 (by decide) (fun c_16 => ?_) (fun c_16 => ?_)
  · skip
    refine lv_iconst (v := 1) hx hb dX5_may_38 (by decide) ?_
    refine lv_goto (tgt := 43) hx hb dX5_may_39 (by decide) ?_
    exact ct_iret hx hb hr rfl hlocks hK hw dX5_may_43 (Nat.le_of_ble_eq_true rfl) (Nat.le_of_ble_eq_true rfl) (by first | exact ⟨rfl, Or.inl ⟨Or.inl c_16, rfl⟩⟩ | exact ⟨rfl, Or.inl ⟨Or.inr (Or.inl c_21), rfl⟩⟩ | exact ⟨rfl, Or.inl ⟨Or.inr (Or.inr c_35), rfl⟩⟩ | exact ⟨rfl, Or.inr ⟨fun h => h.elim c_16 (fun h => h.elim c_21 c_35), rfl⟩⟩)
  · skip
    refine lv_iload hx hb dX5_may_19 (lv_at hl 0 rfl) ?_
    refine lv_if_eq (tgt := 38) hx hb dX5_may_21 (by decide) (fun c_21 => ?_) (fun c_21 => ?_)
    · skip
      refine lv_iconst (v := 1) hx hb dX5_may_38 (by decide) ?_
      refine lv_goto (tgt := 43) hx hb dX5_may_39 (by decide) ?_
      exact ct_iret hx hb hr rfl hlocks hK hw dX5_may_43 (Nat.le_of_ble_eq_true rfl) (Nat.le_of_ble_eq_true rfl) (by first | exact ⟨rfl, Or.inl ⟨Or.inl c_16, rfl⟩⟩ | exact ⟨rfl, Or.inl ⟨Or.inr (Or.inl c_21), rfl⟩⟩ | exact ⟨rfl, Or.inl ⟨Or.inr (Or.inr c_35), rfl⟩⟩ | exact ⟨rfl, Or.inr ⟨fun h => h.elim c_16 (fun h => h.elim c_21 c_35), rfl⟩⟩)
    · skip
      refine lv_iload hx hb dX5_may_24 (lv_at hl 0 rfl) ?_
      refine lv_aload_n hx hb dX5_may_26 rfl (lv_at hl 1 rfl) ?_
      refine m_get1 F hi hl13 hK hw dX5_may_27 ?_
      refine lv_iload_n hx hb dX5_may_30 rfl (lv_at hl 2 rfl) ?_
      refine m_ld1 F hK hw h0.in dX5_may_31 ?_
      refine lv_bipush (v := 6) hx hb dX5_may_32 (by decide) ?_
      refine lv_isub hx hb dX5_may_34 ?_
      refine lv_icmp_ne (tgt := 42) hx hb dX5_may_35 (by decide) (fun c_35 => ?_) (fun c_35 => ?_)
      · skip
        refine lv_iconst (v := 0) hx hb dX5_may_42 (by decide) ?_
        exact ct_iret hx hb hr rfl hlocks hK hw dX5_may_43 (Nat.le_of_ble_eq_true rfl) (Nat.le_of_ble_eq_true rfl) (by first | exact ⟨rfl, Or.inl ⟨Or.inl c_16, rfl⟩⟩ | exact ⟨rfl, Or.inl ⟨Or.inr (Or.inl c_21), rfl⟩⟩ | exact ⟨rfl, Or.inl ⟨Or.inr (Or.inr c_35), rfl⟩⟩ | exact ⟨rfl, Or.inr ⟨fun h => h.elim c_16 (fun h => h.elim c_21 c_35), rfl⟩⟩)
      · skip
        refine lv_iconst (v := 1) hx hb dX5_may_38 (by decide) ?_
        refine lv_goto (tgt := 43) hx hb dX5_may_39 (by decide) ?_
        exact ct_iret hx hb hr rfl hlocks hK hw dX5_may_43 (Nat.le_of_ble_eq_true rfl) (Nat.le_of_ble_eq_true rfl) (by first | exact ⟨rfl, Or.inl ⟨Or.inl c_16, rfl⟩⟩ | exact ⟨rfl, Or.inl ⟨Or.inr (Or.inl c_21), rfl⟩⟩ | exact ⟨rfl, Or.inl ⟨Or.inr (Or.inr c_35), rfl⟩⟩ | exact ⟨rfl, Or.inr ⟨fun h => h.elim c_16 (fun h => h.elim c_21 c_35), rfl⟩⟩)

set_option maxHeartbeats 4000000 in
set_option maxRecDepth 100000 in
theorem c_m_cut (l : Launch) (G : va_G) (Y : Nat → ClassId) (x : Nat) (ad : Nat → Nat) (d sc sz : Nat → Int32) (sg : Nat → Int64) (ik cp wt wa ch ct : Nat → Int32) (th : Int32) (k0 : Int32) (v0 : Int64) (hk : k0 = 0 ∨ k0 = 1 ∨ k0 = 2 ∨ k0 = 3 ∨ k0 = 4 ∨ k0 = 5) : ctJ l G Y (mW Y x ad) yX5_cut wsX5_cut ({ frames := 0, cells := 0, slots := 0, locals := 0 }) [.int k0, .long v0] (d, sc, sz, sg, ik, cp, wt, wa, ch, ct, th) (fun r u' => r = mCut k0 v0 ∧ u' = (d, sc, sz, sg, ik, cp, wt, wa, ch, ct, th)) := by
  refine ctJ.of (cc := cX5_cut) (maxL := 3) (ret := (some .long)) (by decide) rfl (Nat.le_of_ble_eq_true rfl) ?_
  intro A p e s m below meth c ls hB
  obtain ⟨F, hr, hlocks, hnm, hK, hA, hw, hl⟩ := hB
  obtain ⟨hx, hb, hml, hown, hts⟩ := id F
  have hl : lv_has ls 3 [(0, .int k0), (1, .long v0)] := hl
  refine lv_iload_n hx hb dX5_cut_0 rfl (lv_at hl 0 rfl) ?_
  rcases hk with rfl | rfl | rfl | rfl | rfl | rfl
  · skip
    refine lv_tableIn (off := 35) (tgt := 36) hx hb dX5_cut_1 (by decide) (by decide) (by decide) (by decide) ?_
    refine lv_lload_n hx hb dX5_cut_36 rfl (lv_at hl 1 rfl) ?_
    refine lv_bipush (v := 56) hx hb dX5_cut_37 (by decide) ?_
    refine lv_lshl hx hb dX5_cut_39 rfl ?_
    refine lv_bipush (v := 56) hx hb dX5_cut_40 (by decide) ?_
    refine lv_lshr hx hb dX5_cut_42 rfl ?_
    exact ct_lret hx hb hr hlocks hK hw dX5_cut_43 (Nat.le_of_ble_eq_true rfl) (Nat.le_of_ble_eq_true rfl) ⟨rfl, rfl⟩
  · skip
    refine lv_tableIn (off := 43) (tgt := 44) hx hb dX5_cut_1 (by decide) (by decide) (by decide) (by decide) ?_
    refine lv_lload_n hx hb dX5_cut_44 rfl (lv_at hl 1 rfl) ?_
    refine lv_ldc2 hx hb hown (hts (.constantLong RX5 55 (65535)) (by decide +kernel)) dX5_cut_45 ?_
    refine lv_land hx hb dX5_cut_48 ?_
    exact ct_lret hx hb hr hlocks hK hw dX5_cut_49 (Nat.le_of_ble_eq_true rfl) (Nat.le_of_ble_eq_true rfl) ⟨rfl, rfl⟩
  · skip
    refine lv_tableIn (off := 49) (tgt := 50) hx hb dX5_cut_1 (by decide) (by decide) (by decide) (by decide) ?_
    refine lv_lload_n hx hb dX5_cut_50 rfl (lv_at hl 1 rfl) ?_
    refine lv_bipush (v := 48) hx hb dX5_cut_51 (by decide) ?_
    refine lv_lshl hx hb dX5_cut_53 rfl ?_
    refine lv_bipush (v := 48) hx hb dX5_cut_54 (by decide) ?_
    refine lv_lshr hx hb dX5_cut_56 rfl ?_
    exact ct_lret hx hb hr hlocks hK hw dX5_cut_57 (Nat.le_of_ble_eq_true rfl) (Nat.le_of_ble_eq_true rfl) ⟨rfl, rfl⟩
  · skip
    refine lv_tableIn (off := 57) (tgt := 58) hx hb dX5_cut_1 (by decide) (by decide) (by decide) (by decide) ?_
    refine lv_lload_n hx hb dX5_cut_58 rfl (lv_at hl 1 rfl) ?_
    refine lv_bipush (v := 32) hx hb dX5_cut_59 (by decide) ?_
    refine lv_lshl hx hb dX5_cut_61 rfl ?_
    refine lv_bipush (v := 32) hx hb dX5_cut_62 (by decide) ?_
    refine lv_lshr hx hb dX5_cut_64 rfl ?_
    exact ct_lret hx hb hr hlocks hK hw dX5_cut_65 (Nat.le_of_ble_eq_true rfl) (Nat.le_of_ble_eq_true rfl) ⟨rfl, rfl⟩
  · skip
    refine lv_tableIn (off := 65) (tgt := 66) hx hb dX5_cut_1 (by decide) (by decide) (by decide) (by decide) ?_
    refine lv_lload_n hx hb dX5_cut_66 rfl (lv_at hl 1 rfl) ?_
    exact ct_lret hx hb hr hlocks hK hw dX5_cut_67 (Nat.le_of_ble_eq_true rfl) (Nat.le_of_ble_eq_true rfl) ⟨rfl, rfl⟩
  · skip
    refine lv_tableOut (tgt := 68) hx hb dX5_cut_1 (by decide) (by decide) ?_
    refine lv_lload_n hx hb dX5_cut_68 rfl (lv_at hl 1 rfl) ?_
    refine lv_lconst (v := 1) hx hb dX5_cut_69 (by decide) ?_
    refine lv_land hx hb dX5_cut_70 ?_
    exact ct_lret hx hb hr hlocks hK hw dX5_cut_71 (Nat.le_of_ble_eq_true rfl) (Nat.le_of_ble_eq_true rfl) ⟨rfl, rfl⟩

set_option maxHeartbeats 4000000 in
set_option maxRecDepth 100000 in
theorem c_m_unlike (l : Launch) (G : va_G) (Y : Nat → ClassId) (x : Nat) (ad : Nat → Nat) (d sc sz : Nat → Int32) (sg : Nat → Int64) (ik cp wt wa ch ct : Nat → Int32) (th : Int32) (p0 : Int32) (p1 : Int32) (hd : dOK d) (h0 : isD p0) (h1 : isD p1) : ctI l G Y (mW Y x ad) yX5_unlike wsX5_unlike ({ frames := 0, cells := 0, slots := 0, locals := 0 }) [.ref x, .int p0, .int p1] (d, sc, sz, sg, ik, cp, wt, wa, ch, ct, th) (fun r u' => r = mUnl d sc p0 p1 ∧ u' = (d, sc, sz, sg, ik, cp, wt, wa, ch, ct, th)) := by
  refine ctI.of (cc := cX5_unlike) (maxL := 5) (ret := (some .int)) (by decide) rfl (Nat.le_of_ble_eq_true rfl) ?_
  intro A p e s m below meth c ls hB
  obtain ⟨F, hr, hlocks, hnm, hK, hA, hw, hl⟩ := hB
  obtain ⟨hx, hb, hml, hown, hts⟩ := id F
  have hl : lv_has ls 5 [(0, .ref x), (1, .int p0), (2, .int p1)] := hl
  have hi : ∀ w ∈ wsX50, w ∈ wsX5_unlike := by decide +kernel
  have hl7 : Cond.fieldLink RX5 7 "ScriptoriumModel" "desk" "[I" ∈ wsX5_unlike := by decide +kernel
  have hl13 : Cond.fieldLink RX5 13 "ScriptoriumModel" "script" "[I" ∈ wsX5_unlike := by decide +kernel
  refine lv_aload_n hx hb dX5_unlike_0 rfl (lv_at hl 0 rfl) ?_
  refine m_get0 F hi hl7 hK hw dX5_unlike_1 ?_
  refine lv_iload_n hx hb dX5_unlike_4 rfl (lv_at hl 1 rfl) ?_
  refine m_ld0 F hK hw h0.in dX5_unlike_5 ?_
  refine lv_iconst (v := -1) hx hb dX5_unlike_6 (by decide) ?_
  refine lv_icmp_eq (tgt := 20) hx hb dX5_unlike_7 (by decide) (fun c_7 => ?_) (fun c_7 => ?_)
  · skip
    refine lv_iconst (v := -1) hx hb dX5_unlike_20 (by decide) ?_
    exact ct_iret hx hb hr (vp_nar_int _) hlocks hK hw dX5_unlike_21 (Nat.le_of_ble_eq_true rfl) (Nat.le_of_ble_eq_true rfl) ⟨by unfold mUnl; first | exact (if_pos (Or.inl c_7)).symm | exact (if_pos (Or.inr c_17)).symm, rfl⟩
  · skip
    refine lv_aload_n hx hb dX5_unlike_10 rfl (lv_at hl 0 rfl) ?_
    refine m_get0 F hi hl7 hK hw dX5_unlike_11 ?_
    refine lv_iload_n hx hb dX5_unlike_14 rfl (lv_at hl 2 rfl) ?_
    refine m_ld0 F hK hw h1.in dX5_unlike_15 ?_
    refine lv_iconst (v := -1) hx hb dX5_unlike_16 (by decide) ?_
    refine lv_icmp_ne (tgt := 22) hx hb dX5_unlike_17 (by decide) (fun c_17 => ?_) (fun c_17 => ?_)
    · skip
      refine lv_aload_n hx hb dX5_unlike_22 rfl (lv_at hl 0 rfl) ?_
      refine m_get0 F hi hl7 hK hw dX5_unlike_23 ?_
      refine lv_iload_n hx hb dX5_unlike_26 rfl (lv_at hl 1 rfl) ?_
      refine m_ld0 F hK hw h0.in dX5_unlike_27 ?_
      refine lv_bipush (v := -2) hx hb dX5_unlike_28 (by decide) ?_
      refine lv_icmp_eq (tgt := 44) hx hb dX5_unlike_30 (by decide) (fun c_30 => ?_) (fun c_30 => ?_)
      · skip
        refine lv_bipush (v := -2) hx hb dX5_unlike_44 (by decide) ?_
        exact ct_iret hx hb hr (vp_nar_int _) hlocks hK hw dX5_unlike_46 (Nat.le_of_ble_eq_true rfl) (Nat.le_of_ble_eq_true rfl) ⟨by unfold mUnl; rw [if_neg (fun h => h.elim c_7 c_17)]; first | exact (if_pos (Or.inl c_30)).symm | exact (if_pos (Or.inr c_41)).symm, rfl⟩
      · skip
        refine lv_aload_n hx hb dX5_unlike_33 rfl (lv_at hl 0 rfl) ?_
        refine m_get0 F hi hl7 hK hw dX5_unlike_34 ?_
        refine lv_iload_n hx hb dX5_unlike_37 rfl (lv_at hl 2 rfl) ?_
        refine m_ld0 F hK hw h1.in dX5_unlike_38 ?_
        refine lv_bipush (v := -2) hx hb dX5_unlike_39 (by decide) ?_
        refine lv_icmp_ne (tgt := 47) hx hb dX5_unlike_41 (by decide) (fun c_41 => ?_) (fun c_41 => ?_)
        · skip
          refine lv_aload_n hx hb dX5_unlike_47 rfl (lv_at hl 0 rfl) ?_
          refine m_get1 F hi hl13 hK hw dX5_unlike_48 ?_
          refine lv_aload_n hx hb dX5_unlike_51 rfl (lv_at hl 0 rfl) ?_
          refine m_get0 F hi hl7 hK hw dX5_unlike_52 ?_
          refine lv_iload_n hx hb dX5_unlike_55 rfl (lv_at hl 1 rfl) ?_
          refine m_ld0 F hK hw h0.in dX5_unlike_56 ?_
          refine m_ld1 F hK hw (hd.at h0 c_7 c_30).in dX5_unlike_57 ?_
          refine lv_istore_n (lv' := [(3, .int _), (0, .ref _), (1, .int _), (2, .int _)]) hx hb dX5_unlike_58 rfl hl (by decide) rfl (fun ls hl => ?_)
          refine lv_aload_n hx hb dX5_unlike_59 rfl (lv_at hl 1 rfl) ?_
          refine m_get1 F hi hl13 hK hw dX5_unlike_60 ?_
          refine lv_aload_n hx hb dX5_unlike_63 rfl (lv_at hl 1 rfl) ?_
          refine m_get0 F hi hl7 hK hw dX5_unlike_64 ?_
          refine lv_iload_n hx hb dX5_unlike_67 rfl (lv_at hl 3 rfl) ?_
          refine m_ld0 F hK hw h1.in dX5_unlike_68 ?_
          refine m_ld1 F hK hw (hd.at h1 c_17 c_41).in dX5_unlike_69 ?_
          refine lv_istore (lv' := [(4, .int _), (3, .int _), (0, .ref _), (1, .int _), (2, .int _)]) hx hb dX5_unlike_70 hl (by decide) rfl (fun ls hl => ?_)
          refine lv_iload_n hx hb dX5_unlike_72 rfl (lv_at hl 1 rfl) ?_
          refine lv_iload hx hb dX5_unlike_73 (lv_at hl 0 rfl) ?_
          refine lv_icmp_eq (tgt := 89) hx hb dX5_unlike_75 (by decide) (fun c_75 => ?_) (fun c_75 => ?_)
          · skip
            refine lv_iconst (v := 0) hx hb dX5_unlike_89 (by decide) ?_
            refine lv_goto (tgt := 95) hx hb dX5_unlike_90 (by decide) ?_
            exact ct_iret hx hb hr (vp_nar_int _) hlocks hK hw dX5_unlike_95 (Nat.le_of_ble_eq_true rfl) (Nat.le_of_ble_eq_true rfl) ⟨by unfold mUnl; rw [if_neg (fun h => h.elim c_7 c_17), if_neg (fun h => h.elim c_30 c_41)]; first | exact (if_pos (Or.inl c_75)).symm | exact (if_pos (Or.inr ⟨Int32.not_le.mp c_80, Int32.not_le.mp c_86⟩)).symm | (refine (if_neg ?_).symm; intro h; rcases h with h | ⟨h1, h2⟩; (exact c_75 h); (first | exact absurd h1 (Int32.not_lt.mpr c_80) | exact absurd h2 (Int32.not_lt.mpr c_86))), rfl⟩
          · skip
            refine lv_iload_n hx hb dX5_unlike_78 rfl (lv_at hl 1 rfl) ?_
            refine lv_iconst (v := 5) hx hb dX5_unlike_79 (by decide) ?_
            refine lv_icmp_le (tgt := 93) hx hb dX5_unlike_80 (by decide) (fun c_80 => ?_) (fun c_80 => ?_)
            · skip
              refine lv_bipush (v := -2) hx hb dX5_unlike_93 (by decide) ?_
              exact ct_iret hx hb hr (vp_nar_int _) hlocks hK hw dX5_unlike_95 (Nat.le_of_ble_eq_true rfl) (Nat.le_of_ble_eq_true rfl) ⟨by unfold mUnl; rw [if_neg (fun h => h.elim c_7 c_17), if_neg (fun h => h.elim c_30 c_41)]; first | exact (if_pos (Or.inl c_75)).symm | exact (if_pos (Or.inr ⟨Int32.not_le.mp c_80, Int32.not_le.mp c_86⟩)).symm | (refine (if_neg ?_).symm; intro h; rcases h with h | ⟨h1, h2⟩; (exact c_75 h); (first | exact absurd h1 (Int32.not_lt.mpr c_80) | exact absurd h2 (Int32.not_lt.mpr c_86))), rfl⟩
            · skip
              refine lv_iload hx hb dX5_unlike_83 (lv_at hl 0 rfl) ?_
              refine lv_iconst (v := 5) hx hb dX5_unlike_85 (by decide) ?_
              refine lv_icmp_le (tgt := 93) hx hb dX5_unlike_86 (by decide) (fun c_86 => ?_) (fun c_86 => ?_)
              · skip
                refine lv_bipush (v := -2) hx hb dX5_unlike_93 (by decide) ?_
                exact ct_iret hx hb hr (vp_nar_int _) hlocks hK hw dX5_unlike_95 (Nat.le_of_ble_eq_true rfl) (Nat.le_of_ble_eq_true rfl) ⟨by unfold mUnl; rw [if_neg (fun h => h.elim c_7 c_17), if_neg (fun h => h.elim c_30 c_41)]; first | exact (if_pos (Or.inl c_75)).symm | exact (if_pos (Or.inr ⟨Int32.not_le.mp c_80, Int32.not_le.mp c_86⟩)).symm | (refine (if_neg ?_).symm; intro h; rcases h with h | ⟨h1, h2⟩; (exact c_75 h); (first | exact absurd h1 (Int32.not_lt.mpr c_80) | exact absurd h2 (Int32.not_lt.mpr c_86))), rfl⟩
              · skip
                refine lv_iconst (v := 0) hx hb dX5_unlike_89 (by decide) ?_
                refine lv_goto (tgt := 95) hx hb dX5_unlike_90 (by decide) ?_
                exact ct_iret hx hb hr (vp_nar_int _) hlocks hK hw dX5_unlike_95 (Nat.le_of_ble_eq_true rfl) (Nat.le_of_ble_eq_true rfl) ⟨by unfold mUnl; rw [if_neg (fun h => h.elim c_7 c_17), if_neg (fun h => h.elim c_30 c_41)]; first | exact (if_pos (Or.inl c_75)).symm | exact (if_pos (Or.inr ⟨Int32.not_le.mp c_80, Int32.not_le.mp c_86⟩)).symm | (refine (if_neg ?_).symm; intro h; rcases h with h | ⟨h1, h2⟩; (exact c_75 h); (first | exact absurd h1 (Int32.not_lt.mpr c_80) | exact absurd h2 (Int32.not_lt.mpr c_86))), rfl⟩
        · skip
          refine lv_bipush (v := -2) hx hb dX5_unlike_44 (by decide) ?_
          exact ct_iret hx hb hr (vp_nar_int _) hlocks hK hw dX5_unlike_46 (Nat.le_of_ble_eq_true rfl) (Nat.le_of_ble_eq_true rfl) ⟨by unfold mUnl; rw [if_neg (fun h => h.elim c_7 c_17)]; first | exact (if_pos (Or.inl c_30)).symm | exact (if_pos (Or.inr c_41)).symm, rfl⟩
    · skip
      refine lv_iconst (v := -1) hx hb dX5_unlike_20 (by decide) ?_
      exact ct_iret hx hb hr (vp_nar_int _) hlocks hK hw dX5_unlike_21 (Nat.le_of_ble_eq_true rfl) (Nat.le_of_ble_eq_true rfl) ⟨by unfold mUnl; first | exact (if_pos (Or.inl c_7)).symm | exact (if_pos (Or.inr c_17)).symm, rfl⟩

set_option maxHeartbeats 4000000 in
set_option maxRecDepth 100000 in
theorem c_m_stone (l : Launch) (G : va_G) (Y : Nat → ClassId) (x : Nat) (ad : Nat → Nat) (d sc sz : Nat → Int32) (sg : Nat → Int64) (ik cp wt wa ch ct : Nat → Int32) (th : Int32) (p0 : Int32)  : ctI l G Y (mW Y x ad) yX5_stone wsX5_stone ({ frames := 1, cells := 0, slots := 0, locals := 40 }) [.ref x, .int p0] (d, sc, sz, sg, ik, cp, wt, wa, ch, ct, th) (fun r u' => (isD p0 ∧ r = 0 ∧ u' = (upd d (cl p0) (-2), sc, sz, sg, ik, cp, wt, wa, ch, ct, 0)) ∨ (¬ isD p0 ∧ r = -99 ∧ u' = (d, sc, sz, sg, ik, cp, wt, wa, ch, ct, 0))) := by
  refine ctI.of (cc := cX5_stone) (maxL := 2) (ret := (some .int)) (by decide) rfl (Nat.le_of_ble_eq_true rfl) ?_
  intro A p e s m below meth c ls hB
  obtain ⟨F, hr, hlocks, hnm, hK, hA, hw, hl⟩ := hB
  obtain ⟨hx, hb, hml, hown, hts⟩ := id F
  have hl : lv_has ls 2 [(0, .ref x), (1, .int p0)] := hl
  have hi : ∀ w ∈ wsX50, w ∈ wsX5_stone := by decide +kernel
  have hl7 : Cond.fieldLink RX5 7 "ScriptoriumModel" "desk" "[I" ∈ wsX5_stone := by decide +kernel
  have hl41 : Cond.fieldLink RX5 41 "ScriptoriumModel" "thrown" "I" ∈ wsX5_stone := by decide +kernel
  refine lv_aload_n hx hb dX5_stone_0 rfl (lv_at hl 0 rfl) ?_
  refine lv_iconst (v := 0) hx hb dX5_stone_1 (by decide) ?_
  refine m_put10 F hi hl41 hK hw dX5_stone_2 (fun H locs hw => ?_)
  refine lv_iload_n hx hb dX5_stone_5 rfl (lv_at hl 1 rfl) ?_
  refine (c_m_isDesk l G Y x ad _ _ _ _ _ _ _ _ _ _ _ _).callS F (va_cwS 1 hts gX5_stone_X5_isDesk rfl rfl rfl (by decide +kernel) ⟨Nat.le_of_ble_eq_true rfl, Nat.le_of_ble_eq_true rfl⟩) hK hw hA rfl rfl hl.1 (by decide) dX5_stone_6 ⟨Nat.le_of_ble_eq_true rfl, Nat.le_of_ble_eq_true rfl⟩ (fun r_6 u_6 H locs hp_6 hw => ?_)
  obtain ⟨rfl, ⟨hq_6, rfl⟩ | ⟨hq_6, rfl⟩⟩ := hp_6
  · skip
    refine lv_if_ne (tgt := 15) hx hb dX5_stone_9 (by decide) (fun c_9 => ?_) (fun c_9 => ?_)
    · skip
      refine lv_aload_n hx hb dX5_stone_15 rfl (lv_at hl 0 rfl) ?_
      refine m_get0 F hi hl7 hK hw dX5_stone_16 ?_
      refine lv_iload_n hx hb dX5_stone_19 rfl (lv_at hl 1 rfl) ?_
      refine lv_bipush (v := -2) hx hb dX5_stone_20 (by decide) ?_
      refine m_st0 F hK hw hq_6.in dX5_stone_22 (fun H locs hw => ?_)
      refine lv_iconst (v := 0) hx hb dX5_stone_23 (by decide) ?_
      exact ct_iret hx hb hr (vp_nar_int _) hlocks hK hw dX5_stone_24 (Nat.le_of_ble_eq_true rfl) (Nat.le_of_ble_eq_true rfl) (Or.inl ⟨hq_6, rfl, rfl⟩)
    · exact absurd c_9 (by decide)
  · skip
    refine lv_if_ne (tgt := 15) hx hb dX5_stone_9 (by decide) (fun c_9 => ?_) (fun c_9 => ?_)
    · exact absurd rfl c_9
    · skip
      refine lv_bipush (v := -99) hx hb dX5_stone_12 (by decide) ?_
      exact ct_iret hx hb hr (vp_nar_int _) hlocks hK hw dX5_stone_14 (Nat.le_of_ble_eq_true rfl) (Nat.le_of_ble_eq_true rfl) (Or.inr ⟨hq_6, rfl, rfl⟩)

set_option maxHeartbeats 4000000 in
set_option maxRecDepth 100000 in
theorem c_m_clear (l : Launch) (G : va_G) (Y : Nat → ClassId) (x : Nat) (ad : Nat → Nat) (d sc sz : Nat → Int32) (sg : Nat → Int64) (ik cp wt wa ch ct : Nat → Int32) (th : Int32) (p0 : Int32)  : ctI l G Y (mW Y x ad) yX5_clear wsX5_clear ({ frames := 1, cells := 0, slots := 0, locals := 40 }) [.ref x, .int p0] (d, sc, sz, sg, ik, cp, wt, wa, ch, ct, th) (fun r u' => (isD p0 ∧ r = 0 ∧ u' = (upd d (cl p0) (-1), sc, sz, sg, ik, cp, wt, wa, ch, ct, 0)) ∨ (¬ isD p0 ∧ r = -99 ∧ u' = (d, sc, sz, sg, ik, cp, wt, wa, ch, ct, 0))) := by
  refine ctI.of (cc := cX5_clear) (maxL := 2) (ret := (some .int)) (by decide) rfl (Nat.le_of_ble_eq_true rfl) ?_
  intro A p e s m below meth c ls hB
  obtain ⟨F, hr, hlocks, hnm, hK, hA, hw, hl⟩ := hB
  obtain ⟨hx, hb, hml, hown, hts⟩ := id F
  have hl : lv_has ls 2 [(0, .ref x), (1, .int p0)] := hl
  have hi : ∀ w ∈ wsX50, w ∈ wsX5_clear := by decide +kernel
  have hl7 : Cond.fieldLink RX5 7 "ScriptoriumModel" "desk" "[I" ∈ wsX5_clear := by decide +kernel
  have hl41 : Cond.fieldLink RX5 41 "ScriptoriumModel" "thrown" "I" ∈ wsX5_clear := by decide +kernel
  refine lv_aload_n hx hb dX5_clear_0 rfl (lv_at hl 0 rfl) ?_
  refine lv_iconst (v := 0) hx hb dX5_clear_1 (by decide) ?_
  refine m_put10 F hi hl41 hK hw dX5_clear_2 (fun H locs hw => ?_)
  refine lv_iload_n hx hb dX5_clear_5 rfl (lv_at hl 1 rfl) ?_
  refine (c_m_isDesk l G Y x ad _ _ _ _ _ _ _ _ _ _ _ _).callS F (va_cwS 1 hts gX5_clear_X5_isDesk rfl rfl rfl (by decide +kernel) ⟨Nat.le_of_ble_eq_true rfl, Nat.le_of_ble_eq_true rfl⟩) hK hw hA rfl rfl hl.1 (by decide) dX5_clear_6 ⟨Nat.le_of_ble_eq_true rfl, Nat.le_of_ble_eq_true rfl⟩ (fun r_6 u_6 H locs hp_6 hw => ?_)
  obtain ⟨rfl, ⟨hq_6, rfl⟩ | ⟨hq_6, rfl⟩⟩ := hp_6
  · skip
    refine lv_if_ne (tgt := 15) hx hb dX5_clear_9 (by decide) (fun c_9 => ?_) (fun c_9 => ?_)
    · skip
      refine lv_aload_n hx hb dX5_clear_15 rfl (lv_at hl 0 rfl) ?_
      refine m_get0 F hi hl7 hK hw dX5_clear_16 ?_
      refine lv_iload_n hx hb dX5_clear_19 rfl (lv_at hl 1 rfl) ?_
      refine lv_iconst (v := -1) hx hb dX5_clear_20 (by decide) ?_
      refine m_st0 F hK hw hq_6.in dX5_clear_21 (fun H locs hw => ?_)
      refine lv_iconst (v := 0) hx hb dX5_clear_22 (by decide) ?_
      exact ct_iret hx hb hr (vp_nar_int _) hlocks hK hw dX5_clear_23 (Nat.le_of_ble_eq_true rfl) (Nat.le_of_ble_eq_true rfl) (Or.inl ⟨hq_6, rfl, rfl⟩)
    · exact absurd c_9 (by decide)
  · skip
    refine lv_if_ne (tgt := 15) hx hb dX5_clear_9 (by decide) (fun c_9 => ?_) (fun c_9 => ?_)
    · exact absurd rfl c_9
    · skip
      refine lv_bipush (v := -99) hx hb dX5_clear_12 (by decide) ?_
      exact ct_iret hx hb hr (vp_nar_int _) hlocks hK hw dX5_clear_14 (Nat.le_of_ble_eq_true rfl) (Nat.le_of_ble_eq_true rfl) (Or.inr ⟨hq_6, rfl, rfl⟩)

set_option maxHeartbeats 4000000 in
set_option maxRecDepth 100000 in
theorem c_m_share (l : Launch) (G : va_G) (Y : Nat → ClassId) (x : Nat) (ad : Nat → Nat) (d sc sz : Nat → Int32) (sg : Nat → Int64) (ik cp wt wa ch ct : Nat → Int32) (th : Int32) (p0 : Int32) (p1 : Int32)  : ctI l G Y (mW Y x ad) yX5_share wsX5_share ({ frames := 1, cells := 0, slots := 0, locals := 40 }) [.ref x, .int p0, .int p1] (d, sc, sz, sg, ik, cp, wt, wa, ch, ct, th) (fun r u' => (isD p0 ∧ isD p1 ∧ r = 0 ∧ u' = (upd d (cl p1) (d (cl p0)), sc, sz, sg, ik, cp, wt, wa, ch, ct, 0)) ∨ (¬ (isD p0 ∧ isD p1) ∧ r = -99 ∧ u' = (d, sc, sz, sg, ik, cp, wt, wa, ch, ct, 0))) := by
  refine ctI.of (cc := cX5_share) (maxL := 3) (ret := (some .int)) (by decide) rfl (Nat.le_of_ble_eq_true rfl) ?_
  intro A p e s m below meth c ls hB
  obtain ⟨F, hr, hlocks, hnm, hK, hA, hw, hl⟩ := hB
  obtain ⟨hx, hb, hml, hown, hts⟩ := id F
  have hl : lv_has ls 3 [(0, .ref x), (1, .int p0), (2, .int p1)] := hl
  have hi : ∀ w ∈ wsX50, w ∈ wsX5_share := by decide +kernel
  have hl7 : Cond.fieldLink RX5 7 "ScriptoriumModel" "desk" "[I" ∈ wsX5_share := by decide +kernel
  have hl41 : Cond.fieldLink RX5 41 "ScriptoriumModel" "thrown" "I" ∈ wsX5_share := by decide +kernel
  refine lv_aload_n hx hb dX5_share_0 rfl (lv_at hl 0 rfl) ?_
  refine lv_iconst (v := 0) hx hb dX5_share_1 (by decide) ?_
  refine m_put10 F hi hl41 hK hw dX5_share_2 (fun H locs hw => ?_)
  refine lv_iload_n hx hb dX5_share_5 rfl (lv_at hl 1 rfl) ?_
  refine (c_m_isDesk l G Y x ad _ _ _ _ _ _ _ _ _ _ _ _).callS F (va_cwS 1 hts gX5_share_X5_isDesk rfl rfl rfl (by decide +kernel) ⟨Nat.le_of_ble_eq_true rfl, Nat.le_of_ble_eq_true rfl⟩) hK hw hA rfl rfl hl.1 (by decide) dX5_share_6 ⟨Nat.le_of_ble_eq_true rfl, Nat.le_of_ble_eq_true rfl⟩ (fun r_6 u_6 H locs hp_6 hw => ?_)
  obtain ⟨rfl, ⟨hq_6, rfl⟩ | ⟨hq_6, rfl⟩⟩ := hp_6
  · skip
    refine lv_if_eq (tgt := 19) hx hb dX5_share_9 (by decide) (fun c_9 => ?_) (fun c_9 => ?_)
    · exact absurd c_9 (by decide)
    · skip
      refine lv_iload_n hx hb dX5_share_12 rfl (lv_at hl 2 rfl) ?_
      refine (c_m_isDesk l G Y x ad _ _ _ _ _ _ _ _ _ _ _ _).callS F (va_cwS 1 hts gX5_share_X5_isDesk rfl rfl rfl (by decide +kernel) ⟨Nat.le_of_ble_eq_true rfl, Nat.le_of_ble_eq_true rfl⟩) hK hw hA rfl rfl hl.1 (by decide) dX5_share_13 ⟨Nat.le_of_ble_eq_true rfl, Nat.le_of_ble_eq_true rfl⟩ (fun r_13 u_13 H locs hp_13 hw => ?_)
      obtain ⟨rfl, ⟨hq_13, rfl⟩ | ⟨hq_13, rfl⟩⟩ := hp_13
      · skip
        refine lv_if_ne (tgt := 22) hx hb dX5_share_16 (by decide) (fun c_16 => ?_) (fun c_16 => ?_)
        · skip
          refine lv_aload_n hx hb dX5_share_22 rfl (lv_at hl 0 rfl) ?_
          refine m_get0 F hi hl7 hK hw dX5_share_23 ?_
          refine lv_iload_n hx hb dX5_share_26 rfl (lv_at hl 2 rfl) ?_
          refine lv_aload_n hx hb dX5_share_27 rfl (lv_at hl 0 rfl) ?_
          refine m_get0 F hi hl7 hK hw dX5_share_28 ?_
          refine lv_iload_n hx hb dX5_share_31 rfl (lv_at hl 1 rfl) ?_
          refine m_ld0 F hK hw hq_6.in dX5_share_32 ?_
          refine m_st0 F hK hw hq_13.in dX5_share_33 (fun H locs hw => ?_)
          refine lv_iconst (v := 0) hx hb dX5_share_34 (by decide) ?_
          exact ct_iret hx hb hr (vp_nar_int _) hlocks hK hw dX5_share_35 (Nat.le_of_ble_eq_true rfl) (Nat.le_of_ble_eq_true rfl) (Or.inl ⟨hq_6, hq_13, rfl, rfl⟩)
        · exact absurd c_16 (by decide)
      · skip
        refine lv_if_ne (tgt := 22) hx hb dX5_share_16 (by decide) (fun c_16 => ?_) (fun c_16 => ?_)
        · exact absurd rfl c_16
        · skip
          refine lv_bipush (v := -99) hx hb dX5_share_19 (by decide) ?_
          exact ct_iret hx hb hr (vp_nar_int _) hlocks hK hw dX5_share_21 (Nat.le_of_ble_eq_true rfl) (Nat.le_of_ble_eq_true rfl) (by first | exact Or.inr ⟨fun h => hq_6 h.1, rfl, rfl⟩ | exact Or.inr ⟨fun h => hq_13 h.2, rfl, rfl⟩)
  · skip
    refine lv_if_eq (tgt := 19) hx hb dX5_share_9 (by decide) (fun c_9 => ?_) (fun c_9 => ?_)
    · skip
      refine lv_bipush (v := -99) hx hb dX5_share_19 (by decide) ?_
      exact ct_iret hx hb hr (vp_nar_int _) hlocks hK hw dX5_share_21 (Nat.le_of_ble_eq_true rfl) (Nat.le_of_ble_eq_true rfl) (by first | exact Or.inr ⟨fun h => hq_6 h.1, rfl, rfl⟩ | exact Or.inr ⟨fun h => hq_13 h.2, rfl, rfl⟩)
    · exact absurd rfl c_9
