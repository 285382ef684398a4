set_option maxHeartbeats 4000000 in
set_option maxRecDepth 100000 in
theorem c_m_fill (l : Launch) (G : va_G) (Y : Nat → ClassId) (x : Nat) (ad : Nat → Nat) (d sc sz : Nat → Int32) (sg : Nat → Int64) (ik cp wt wa ch ct : Nat → Int32) (th : Int32) (p0 : Int32) (p1 : Int32)  : ctI l G Y (mW Y x ad) yX5_fill wsX5_fill ({ frames := 1, cells := 0, slots := 0, locals := 40 }) [.ref x, .int p0, .int p1] (d, sc, sz, sg, ik, cp, wt, wa, ch, ct, th) (fun r u' => ((isS p0 ∧ ¬ p1 < 0 ∧ p1 ≤ 1000) ∧ r = mFil (ik (cl p0) + p1) ∧ u' = (d, sc, sz, sg, upd ik (cl p0) (mFil (ik (cl p0) + p1)), cp, wt, wa, ch, ct, 0)) ∨ (¬ (isS p0 ∧ ¬ p1 < 0 ∧ p1 ≤ 1000) ∧ r = -99 ∧ u' = (d, sc, sz, sg, ik, cp, wt, wa, ch, ct, 0))) := by
  refine ctI.of (cc := cX5_fill) (maxL := 3) (ret := (some .int)) (by decide) rfl (Nat.le_of_ble_eq_true rfl) ?_
  intro A p e s m below meth c ls hB
  obtain ⟨F, hr, hlocks, hnm, hK, hA, hw, hl⟩ := hB
  obtain ⟨hx, hb, hml, hown, hts⟩ := id F
  have hl : lv_has ls 3 [(0, .ref x), (1, .int p0), (2, .int p1)] := hl
  have hi : ∀ w ∈ wsX50, w ∈ wsX5_fill := by decide +kernel
  have hl23 : Cond.fieldLink RX5 23 "ScriptoriumModel" "ink" "[I" ∈ wsX5_fill := by decide +kernel
  have hl41 : Cond.fieldLink RX5 41 "ScriptoriumModel" "thrown" "I" ∈ wsX5_fill := by decide +kernel
  refine lv_aload_n hx hb dX5_fill_0 rfl (lv_at hl 0 rfl) ?_
  refine lv_iconst (v := 0) hx hb dX5_fill_1 (by decide) ?_
  refine m_put10 F hi hl41 hK hw dX5_fill_2 (fun H locs hw => ?_)
  refine lv_iload_n hx hb dX5_fill_5 rfl (lv_at hl 1 rfl) ?_
  refine (c_m_isScribe l G Y x ad _ _ _ _ _ _ _ _ _ _ _ _).callS F (va_cwS 1 hts gX5_fill_X5_isScribe rfl rfl rfl (by decide +kernel) ⟨Nat.le_of_ble_eq_true rfl, Nat.le_of_ble_eq_true rfl⟩) hK hw hA rfl rfl hl.1 (Nat.le_of_ble_eq_true rfl) dX5_fill_6 ⟨Nat.le_of_ble_eq_true rfl, Nat.le_of_ble_eq_true rfl⟩ (fun r_6 u_6 H locs hp_6 hw => ?_)
  obtain ⟨rfl, ⟨hq_6, rfl⟩ | ⟨hq_6, rfl⟩⟩ := hp_6
  · skip
    refine lv_if_eq (tgt := 23) hx hb dX5_fill_9 (by decide) (fun c_9 => ?_) (fun c_9 => ?_)
    · exact absurd c_9 (by decide)
    · skip
      refine lv_iload_n hx hb dX5_fill_12 rfl (lv_at hl 2 rfl) ?_
      refine lv_if_lt (tgt := 23) hx hb dX5_fill_13 (by decide) (fun c_13 => ?_) (fun c_13 => ?_)
      · skip
        refine lv_bipush (v := -99) hx hb dX5_fill_23 (by decide) ?_
        exact ct_iret hx hb hr (vp_nar_int _) hlocks hK hw dX5_fill_25 (Nat.le_of_ble_eq_true rfl) (Nat.le_of_ble_eq_true rfl) (Or.inr ⟨fun h => h.2.1 c_13, rfl, rfl⟩)
      · skip
        refine lv_iload_n hx hb dX5_fill_16 rfl (lv_at hl 2 rfl) ?_
        refine lv_sipush (v := 1000) hx hb dX5_fill_17 (by decide) ?_
        refine lv_icmp_le (tgt := 26) hx hb dX5_fill_20 (by decide) (fun c_20 => ?_) (fun c_20 => ?_)
        · skip
          refine lv_aload_n hx hb dX5_fill_26 rfl (lv_at hl 0 rfl) ?_
          refine m_get4 F hi hl23 hK hw dX5_fill_27 ?_
          refine lv_iload_n hx hb dX5_fill_30 rfl (lv_at hl 1 rfl) ?_
          refine lv_aload_n hx hb dX5_fill_31 rfl (lv_at hl 0 rfl) ?_
          refine m_get4 F hi hl23 hK hw dX5_fill_32 ?_
          refine lv_iload_n hx hb dX5_fill_35 rfl (lv_at hl 1 rfl) ?_
          refine m_ld4 F hK hw hq_6.in dX5_fill_36 ?_
          refine lv_iload_n hx hb dX5_fill_37 rfl (lv_at hl 2 rfl) ?_
          refine lv_iadd hx hb dX5_fill_38 ?_
          refine lv_sipush (v := 1000) hx hb dX5_fill_39 (by decide) ?_
          refine lv_icmp_le (tgt := 51) hx hb dX5_fill_42 (by decide) (fun c_42 => ?_) (fun c_42 => ?_)
          · skip
            refine lv_aload_n hx hb dX5_fill_51 rfl (lv_at hl 0 rfl) ?_
            refine m_get4 F hi hl23 hK hw dX5_fill_52 ?_
            refine lv_iload_n hx hb dX5_fill_55 rfl (lv_at hl 1 rfl) ?_
            refine m_ld4 F hK hw hq_6.in dX5_fill_56 ?_
            refine lv_iload_n hx hb dX5_fill_57 rfl (lv_at hl 2 rfl) ?_
            refine lv_iadd hx hb dX5_fill_58 ?_
            refine m_st4 F hK hw hq_6.in dX5_fill_59 (fun H locs hw => ?_)
            refine lv_aload_n hx hb dX5_fill_60 rfl (lv_at hl 0 rfl) ?_
            refine m_get4 F hi hl23 hK hw dX5_fill_61 ?_
            refine lv_iload_n hx hb dX5_fill_64 rfl (lv_at hl 1 rfl) ?_
            refine m_ld4 F hK hw hq_6.in dX5_fill_65 ?_
            exact ct_iret hx hb hr (vp_nar_int _) hlocks hK hw dX5_fill_66 (Nat.le_of_ble_eq_true rfl) (Nat.le_of_ble_eq_true rfl) (Or.inl ⟨⟨hq_6, c_13, c_20⟩, by unfold mFil; rw [if_pos c_42, pk_us], by unfold mFil; rw [if_pos c_42]⟩)
          · skip
            refine lv_sipush (v := 1000) hx hb dX5_fill_45 (by decide) ?_
            refine lv_goto (tgt := 59) hx hb dX5_fill_48 (by decide) ?_
            refine m_st4 F hK hw hq_6.in dX5_fill_59 (fun H locs hw => ?_)
            refine lv_aload_n hx hb dX5_fill_60 rfl (lv_at hl 0 rfl) ?_
            refine m_get4 F hi hl23 hK hw dX5_fill_61 ?_
            refine lv_iload_n hx hb dX5_fill_64 rfl (lv_at hl 1 rfl) ?_
            refine m_ld4 F hK hw hq_6.in dX5_fill_65 ?_
            exact ct_iret hx hb hr (vp_nar_int _) hlocks hK hw dX5_fill_66 (Nat.le_of_ble_eq_true rfl) (Nat.le_of_ble_eq_true rfl) (Or.inl ⟨⟨hq_6, c_13, c_20⟩, by unfold mFil; rw [if_neg c_42, pk_us], by unfold mFil; rw [if_neg c_42]⟩)
        · skip
          refine lv_bipush (v := -99) hx hb dX5_fill_23 (by decide) ?_
          exact ct_iret hx hb hr (vp_nar_int _) hlocks hK hw dX5_fill_25 (Nat.le_of_ble_eq_true rfl) (Nat.le_of_ble_eq_true rfl) (Or.inr ⟨fun h => c_20 h.2.2, rfl, rfl⟩)
  · skip
    refine lv_if_eq (tgt := 23) hx hb dX5_fill_9 (by decide) (fun c_9 => ?_) (fun c_9 => ?_)
    · skip
      refine lv_bipush (v := -99) hx hb dX5_fill_23 (by decide) ?_
      exact ct_iret hx hb hr (vp_nar_int _) hlocks hK hw dX5_fill_25 (Nat.le_of_ble_eq_true rfl) (Nat.le_of_ble_eq_true rfl) (Or.inr ⟨fun h => hq_6 h.1, rfl, rfl⟩)
    · exact absurd rfl c_9

set_option maxHeartbeats 4000000 in
set_option maxRecDepth 100000 in
theorem c_m_scribe (l : Launch) (G : va_G) (Y : Nat → ClassId) (x : Nat) (ad : Nat → Nat) (d sc sz : Nat → Int32) (sg : Nat → Int64) (ik cp wt wa ch ct : Nat → Int32) (th : Int32) (p0 : Int32) (p1 : Int32)  : ctI l G Y (mW Y x ad) yX5_scribe wsX5_scribe ({ frames := 1, cells := 0, slots := 0, locals := 40 }) [.ref x, .int p0, .int p1] (d, sc, sz, sg, ik, cp, wt, wa, ch, ct, th) (fun r u' => ((isS p0 ∧ ¬ p1 < 0 ∧ p1 ≤ 2) ∧ r = (if p1 = 0 then ik (cl p0) else if p1 = 1 then wa (cl p0) else cp (cl p0)) ∧ u' = (d, sc, sz, sg, ik, cp, wt, wa, ch, ct, 0)) ∨ (¬ (isS p0 ∧ ¬ p1 < 0 ∧ p1 ≤ 2) ∧ r = -99 ∧ u' = (d, sc, sz, sg, ik, cp, wt, wa, ch, ct, 0))) := by
  refine ctI.of (cc := cX5_scribe) (maxL := 3) (ret := (some .int)) (by decide) rfl (Nat.le_of_ble_eq_true rfl) ?_
  intro A p e s m below meth c ls hB
  obtain ⟨F, hr, hlocks, hnm, hK, hA, hw, hl⟩ := hB
  obtain ⟨hx, hb, hml, hown, hts⟩ := id F
  have hl : lv_has ls 3 [(0, .ref x), (1, .int p0), (2, .int p1)] := hl
  have hi : ∀ w ∈ wsX50, w ∈ wsX5_scribe := by decide +kernel
  have hl23 : Cond.fieldLink RX5 23 "ScriptoriumModel" "ink" "[I" ∈ wsX5_scribe := by decide +kernel
  have hl26 : Cond.fieldLink RX5 26 "ScriptoriumModel" "copied" "[I" ∈ wsX5_scribe := by decide +kernel
  have hl32 : Cond.fieldLink RX5 32 "ScriptoriumModel" "waits" "[I" ∈ wsX5_scribe := by decide +kernel
  have hl41 : Cond.fieldLink RX5 41 "ScriptoriumModel" "thrown" "I" ∈ wsX5_scribe := by decide +kernel
  refine lv_aload_n hx hb dX5_scribe_0 rfl (lv_at hl 0 rfl) ?_
  refine lv_iconst (v := 0) hx hb dX5_scribe_1 (by decide) ?_
  refine m_put10 F hi hl41 hK hw dX5_scribe_2 (fun H locs hw => ?_)
  refine lv_iload_n hx hb dX5_scribe_5 rfl (lv_at hl 1 rfl) ?_
  refine (c_m_isScribe l G Y x ad _ _ _ _ _ _ _ _ _ _ _ _).callS F (va_cwS 1 hts gX5_scribe_X5_isScribe rfl rfl rfl (by decide +kernel) ⟨Nat.le_of_ble_eq_true rfl, Nat.le_of_ble_eq_true rfl⟩) hK hw hA rfl rfl hl.1 (Nat.le_of_ble_eq_true rfl) dX5_scribe_6 ⟨Nat.le_of_ble_eq_true rfl, Nat.le_of_ble_eq_true rfl⟩ (fun r_6 u_6 H locs hp_6 hw => ?_)
  obtain ⟨rfl, ⟨hq_6, rfl⟩ | ⟨hq_6, rfl⟩⟩ := hp_6
  · skip
    refine lv_if_eq (tgt := 21) hx hb dX5_scribe_9 (by decide) (fun c_9 => ?_) (fun c_9 => ?_)
    · exact absurd c_9 (by decide)
    · skip
      refine lv_iload_n hx hb dX5_scribe_12 rfl (lv_at hl 2 rfl) ?_
      refine lv_if_lt (tgt := 21) hx hb dX5_scribe_13 (by decide) (fun c_13 => ?_) (fun c_13 => ?_)
      · skip
        refine lv_bipush (v := -99) hx hb dX5_scribe_21 (by decide) ?_
        exact ct_iret hx hb hr (vp_nar_int _) hlocks hK hw dX5_scribe_23 (Nat.le_of_ble_eq_true rfl) (Nat.le_of_ble_eq_true rfl) (Or.inr ⟨fun h => h.2.1 c_13, rfl, rfl⟩)
      · skip
        refine lv_iload_n hx hb dX5_scribe_16 rfl (lv_at hl 2 rfl) ?_
        refine lv_iconst (v := 2) hx hb dX5_scribe_17 (by decide) ?_
        refine lv_icmp_le (tgt := 24) hx hb dX5_scribe_18 (by decide) (fun c_18 => ?_) (fun c_18 => ?_)
        · skip
          refine lv_iload_n hx hb dX5_scribe_24 rfl (lv_at hl 2 rfl) ?_
          refine lv_if_ne (tgt := 37) hx hb dX5_scribe_25 (by decide) (fun c_25 => ?_) (fun c_25 => ?_)
          · skip
            refine lv_iload_n hx hb dX5_scribe_37 rfl (lv_at hl 2 rfl) ?_
            refine lv_iconst (v := 1) hx hb dX5_scribe_38 (by decide) ?_
            refine lv_icmp_ne (tgt := 51) hx hb dX5_scribe_39 (by decide) (fun c_39 => ?_) (fun c_39 => ?_)
            · skip
              refine lv_aload_n hx hb dX5_scribe_51 rfl (lv_at hl 0 rfl) ?_
              refine m_get5 F hi hl26 hK hw dX5_scribe_52 ?_
              refine lv_iload_n hx hb dX5_scribe_55 rfl (lv_at hl 1 rfl) ?_
              refine m_ld5 F hK hw hq_6.in dX5_scribe_56 ?_
              exact ct_iret hx hb hr (vp_nar_int _) hlocks hK hw dX5_scribe_57 (Nat.le_of_ble_eq_true rfl) (Nat.le_of_ble_eq_true rfl) (Or.inl ⟨⟨hq_6, c_13, c_18⟩, by rw [if_neg c_25, if_neg c_39], rfl⟩)
            · skip
              refine lv_aload_n hx hb dX5_scribe_42 rfl (lv_at hl 0 rfl) ?_
              refine m_get7 F hi hl32 hK hw dX5_scribe_43 ?_
              refine lv_iload_n hx hb dX5_scribe_46 rfl (lv_at hl 1 rfl) ?_
              refine m_ld7 F hK hw hq_6.in dX5_scribe_47 ?_
              refine lv_goto (tgt := 57) hx hb dX5_scribe_48 (by decide) ?_
              exact ct_iret hx hb hr (vp_nar_int _) hlocks hK hw dX5_scribe_57 (Nat.le_of_ble_eq_true rfl) (Nat.le_of_ble_eq_true rfl) (Or.inl ⟨⟨hq_6, c_13, c_18⟩, by rw [if_neg c_25, if_pos c_39], rfl⟩)
          · skip
            refine lv_aload_n hx hb dX5_scribe_28 rfl (lv_at hl 0 rfl) ?_
            refine m_get4 F hi hl23 hK hw dX5_scribe_29 ?_
            refine lv_iload_n hx hb dX5_scribe_32 rfl (lv_at hl 1 rfl) ?_
            refine m_ld4 F hK hw hq_6.in dX5_scribe_33 ?_
            refine lv_goto (tgt := 57) hx hb dX5_scribe_34 (by decide) ?_
            exact ct_iret hx hb hr (vp_nar_int _) hlocks hK hw dX5_scribe_57 (Nat.le_of_ble_eq_true rfl) (Nat.le_of_ble_eq_true rfl) (Or.inl ⟨⟨hq_6, c_13, c_18⟩, by rw [if_pos c_25], rfl⟩)
        · skip
          refine lv_bipush (v := -99) hx hb dX5_scribe_21 (by decide) ?_
          exact ct_iret hx hb hr (vp_nar_int _) hlocks hK hw dX5_scribe_23 (Nat.le_of_ble_eq_true rfl) (Nat.le_of_ble_eq_true rfl) (Or.inr ⟨fun h => c_18 h.2.2, rfl, rfl⟩)
  · skip
    refine lv_if_eq (tgt := 21) hx hb dX5_scribe_9 (by decide) (fun c_9 => ?_) (fun c_9 => ?_)
    · skip
      refine lv_bipush (v := -99) hx hb dX5_scribe_21 (by decide) ?_
      exact ct_iret hx hb hr (vp_nar_int _) hlocks hK hw dX5_scribe_23 (Nat.le_of_ble_eq_true rfl) (Nat.le_of_ble_eq_true rfl) (Or.inr ⟨fun h => hq_6 h.1, rfl, rfl⟩)
    · exact absurd rfl c_9

set_option maxHeartbeats 4000000 in
set_option maxRecDepth 100000 in
theorem c_m_count (l : Launch) (G : va_G) (Y : Nat → ClassId) (x : Nat) (ad : Nat → Nat) (d sc sz : Nat → Int32) (sg : Nat → Int64) (ik cp wt wa ch ct : Nat → Int32) (th : Int32) (p0 : Int32)  : ctI l G Y (mW Y x ad) yX5_count wsX5_count ({ frames := 0, cells := 0, slots := 0, locals := 0 }) [.ref x, .int p0] (d, sc, sz, sg, ik, cp, wt, wa, ch, ct, th) (fun r u' => ((¬ p0 < 0 ∧ p0 ≤ 7) ∧ r = ct (cl p0) ∧ u' = (d, sc, sz, sg, ik, cp, wt, wa, ch, ct, 0)) ∨ (¬ (¬ p0 < 0 ∧ p0 ≤ 7) ∧ r = -99 ∧ u' = (d, sc, sz, sg, ik, cp, wt, wa, ch, ct, 0))) := by
  refine ctI.of (cc := cX5_count) (maxL := 2) (ret := (some .int)) (by decide) rfl (Nat.le_of_ble_eq_true rfl) ?_
  intro A p e s m below meth c ls hB
  obtain ⟨F, hr, hlocks, hnm, hK, hA, hw, hl⟩ := hB
  obtain ⟨hx, hb, hml, hown, hts⟩ := id F
  have hl : lv_has ls 2 [(0, .ref x), (1, .int p0)] := hl
  have hi : ∀ w ∈ wsX50, w ∈ wsX5_count := by decide +kernel
  have hl38 : Cond.fieldLink RX5 38 "ScriptoriumModel" "counts" "[I" ∈ wsX5_count := by decide +kernel
  have hl41 : Cond.fieldLink RX5 41 "ScriptoriumModel" "thrown" "I" ∈ wsX5_count := by decide +kernel
  refine lv_aload_n hx hb dX5_count_0 rfl (lv_at hl 0 rfl) ?_
  refine lv_iconst (v := 0) hx hb dX5_count_1 (by decide) ?_
  refine m_put10 F hi hl41 hK hw dX5_count_2 (fun H locs hw => ?_)
  refine lv_iload_n hx hb dX5_count_5 rfl (lv_at hl 1 rfl) ?_
  refine lv_if_lt (tgt := 15) hx hb dX5_count_6 (by decide) (fun c_6 => ?_) (fun c_6 => ?_)
  · skip
    refine lv_bipush (v := -99) hx hb dX5_count_15 (by decide) ?_
    refine lv_goto (tgt := 26) hx hb dX5_count_17 (by decide) ?_
    exact ct_iret hx hb hr (vp_nar_int _) hlocks hK hw dX5_count_26 (Nat.le_of_ble_eq_true rfl) (Nat.le_of_ble_eq_true rfl) (Or.inr ⟨fun h => h.1 c_6, rfl, rfl⟩)
  · skip
    refine lv_iload_n hx hb dX5_count_9 rfl (lv_at hl 1 rfl) ?_
    refine lv_bipush (v := 7) hx hb dX5_count_10 (by decide) ?_
    refine lv_icmp_le (tgt := 20) hx hb dX5_count_12 (by decide) (fun c_12 => ?_) (fun c_12 => ?_)
    · skip
      refine lv_aload_n hx hb dX5_count_20 rfl (lv_at hl 0 rfl) ?_
      refine m_get9 F hi hl38 hK hw dX5_count_21 ?_
      refine lv_iload_n hx hb dX5_count_24 rfl (lv_at hl 1 rfl) ?_
      refine m_ld9 F hK hw (in_le (M := 7) rfl c_6 c_12) dX5_count_25 ?_
      exact ct_iret hx hb hr (vp_nar_int _) hlocks hK hw dX5_count_26 (Nat.le_of_ble_eq_true rfl) (Nat.le_of_ble_eq_true rfl) (Or.inl ⟨⟨c_6, c_12⟩, rfl, rfl⟩)
    · skip
      refine lv_bipush (v := -99) hx hb dX5_count_15 (by decide) ?_
      refine lv_goto (tgt := 26) hx hb dX5_count_17 (by decide) ?_
      exact ct_iret hx hb hr (vp_nar_int _) hlocks hK hw dX5_count_26 (Nat.le_of_ble_eq_true rfl) (Nat.le_of_ble_eq_true rfl) (Or.inr ⟨fun h => c_12 h.2, rfl, rfl⟩)

set_option maxHeartbeats 4000000 in
set_option maxRecDepth 100000 in
theorem c_m_chronicle (l : Launch) (G : va_G) (Y : Nat → ClassId) (x : Nat) (ad : Nat → Nat) (d sc sz : Nat → Int32) (sg : Nat → Int64) (ik cp wt wa ch ct : Nat → Int32) (th : Int32) (p0 : Int32) (p1 : Int32) (c0 : Nat) (hc0 : c0OK ct c0) : ctI l G Y (mW Y x ad) yX5_chronicle wsX5_chronicle ({ frames := 0, cells := 0, slots := 0, locals := 0 }) [.ref x, .int p0, .int p1] (d, sc, sz, sg, ik, cp, wt, wa, ch, ct, th) (fun r u' => ((¬ p0 < 0 ∧ ¬ 16 ≤ p0 ∧ ¬ ct 0 ≤ p0 ∧ ¬ p1 < 0 ∧ p1 ≤ 3) ∧ r = ch (cl (4 * mRow ct p0 + p1)) ∧ u' = (d, sc, sz, sg, ik, cp, wt, wa, ch, ct, 0)) ∨ (¬ (¬ p0 < 0 ∧ ¬ 16 ≤ p0 ∧ ¬ ct 0 ≤ p0 ∧ ¬ p1 < 0 ∧ p1 ≤ 3) ∧ r = -99 ∧ u' = (d, sc, sz, sg, ik, cp, wt, wa, ch, ct, 0))) := by
  refine ctI.of (cc := cX5_chronicle) (maxL := 3) (ret := (some .int)) (by decide) rfl (Nat.le_of_ble_eq_true rfl) ?_
  intro A p e s m below meth c ls hB
  obtain ⟨F, hr, hlocks, hnm, hK, hA, hw, hl⟩ := hB
  obtain ⟨hx, hb, hml, hown, hts⟩ := id F
  have hl : lv_has ls 3 [(0, .ref x), (1, .int p0), (2, .int p1)] := hl
  have hi : ∀ w ∈ wsX50, w ∈ wsX5_chronicle := by decide +kernel
  have hl35 : Cond.fieldLink RX5 35 "ScriptoriumModel" "chronicle" "[I" ∈ wsX5_chronicle := by decide +kernel
  have hl38 : Cond.fieldLink RX5 38 "ScriptoriumModel" "counts" "[I" ∈ wsX5_chronicle := by decide +kernel
  have hl41 : Cond.fieldLink RX5 41 "ScriptoriumModel" "thrown" "I" ∈ wsX5_chronicle := by decide +kernel
  refine lv_aload_n hx hb dX5_chronicle_0 rfl (lv_at hl 0 rfl) ?_
  refine lv_iconst (v := 0) hx hb dX5_chronicle_1 (by decide) ?_
  refine m_put10 F hi hl41 hK hw dX5_chronicle_2 (fun H locs hw => ?_)
  refine lv_iload_n hx hb dX5_chronicle_5 rfl (lv_at hl 1 rfl) ?_
  refine lv_if_lt (tgt := 34) hx hb dX5_chronicle_6 (by decide) (fun c_6 => ?_) (fun c_6 => ?_)
  · skip
    refine lv_bipush (v := -99) hx hb dX5_chronicle_34 (by decide) ?_
    exact ct_iret hx hb hr (vp_nar_int _) hlocks hK hw dX5_chronicle_36 (Nat.le_of_ble_eq_true rfl) (Nat.le_of_ble_eq_true rfl) (Or.inr ⟨fun h => h.1 c_6, rfl, rfl⟩)
  · skip
    refine lv_iload_n hx hb dX5_chronicle_9 rfl (lv_at hl 1 rfl) ?_
    refine lv_bipush (v := 16) hx hb dX5_chronicle_10 (by decide) ?_
    refine lv_icmp_ge (tgt := 34) hx hb dX5_chronicle_12 (by decide) (fun c_12 => ?_) (fun c_12 => ?_)
    · skip
      refine lv_bipush (v := -99) hx hb dX5_chronicle_34 (by decide) ?_
      exact ct_iret hx hb hr (vp_nar_int _) hlocks hK hw dX5_chronicle_36 (Nat.le_of_ble_eq_true rfl) (Nat.le_of_ble_eq_true rfl) (Or.inr ⟨fun h => h.2.1 c_12, rfl, rfl⟩)
    · skip
      refine lv_iload_n hx hb dX5_chronicle_15 rfl (lv_at hl 1 rfl) ?_
      refine lv_aload_n hx hb dX5_chronicle_16 rfl (lv_at hl 0 rfl) ?_
      refine m_get9 F hi hl38 hK hw dX5_chronicle_17 ?_
      refine lv_iconst (v := 0) hx hb dX5_chronicle_20 (by decide) ?_
      refine m_ld9 F hK hw (vp_in_nI (n := 0) (by decide) (by decide)) dX5_chronicle_21 ?_
      refine lv_icmp_ge (tgt := 34) hx hb dX5_chronicle_22 (by decide) (fun c_22 => ?_) (fun c_22 => ?_)
      · skip
        refine lv_bipush (v := -99) hx hb dX5_chronicle_34 (by decide) ?_
        exact ct_iret hx hb hr (vp_nar_int _) hlocks hK hw dX5_chronicle_36 (Nat.le_of_ble_eq_true rfl) (Nat.le_of_ble_eq_true rfl) (Or.inr ⟨fun h => h.2.2.1 c_22, rfl, rfl⟩)
      · skip
        refine lv_iload_n hx hb dX5_chronicle_25 rfl (lv_at hl 2 rfl) ?_
        refine lv_if_lt (tgt := 34) hx hb dX5_chronicle_26 (by decide) (fun c_26 => ?_) (fun c_26 => ?_)
        · skip
          refine lv_bipush (v := -99) hx hb dX5_chronicle_34 (by decide) ?_
          exact ct_iret hx hb hr (vp_nar_int _) hlocks hK hw dX5_chronicle_36 (Nat.le_of_ble_eq_true rfl) (Nat.le_of_ble_eq_true rfl) (Or.inr ⟨fun h => h.2.2.2.1 c_26, rfl, rfl⟩)
        · skip
          refine lv_iload_n hx hb dX5_chronicle_29 rfl (lv_at hl 2 rfl) ?_
          refine lv_iconst (v := 3) hx hb dX5_chronicle_30 (by decide) ?_
          refine lv_icmp_le (tgt := 37) hx hb dX5_chronicle_31 (by decide) (fun c_31 => ?_) (fun c_31 => ?_)
          · skip
            refine lv_aload_n hx hb dX5_chronicle_37 rfl (lv_at hl 0 rfl) ?_
            refine m_get8 F hi hl35 hK hw dX5_chronicle_38 ?_
            refine lv_iconst (v := 4) hx hb dX5_chronicle_41 (by decide) ?_
            refine lv_aload_n hx hb dX5_chronicle_42 rfl (lv_at hl 0 rfl) ?_
            refine m_get9 F hi hl38 hK hw dX5_chronicle_43 ?_
            refine lv_iconst (v := 0) hx hb dX5_chronicle_46 (by decide) ?_
            refine m_ld9 F hK hw (vp_in_nI (n := 0) (by decide) (by decide)) dX5_chronicle_47 ?_
            refine lv_iconst (v := 1) hx hb dX5_chronicle_48 (by decide) ?_
            refine lv_isub hx hb dX5_chronicle_49 ?_
            refine lv_iload_n hx hb dX5_chronicle_50 rfl (lv_at hl 1 rfl) ?_
            refine lv_isub hx hb dX5_chronicle_51 ?_
            refine lv_bipush (v := 16) hx hb dX5_chronicle_52 (by decide) ?_
            refine lv_irem hx hb dX5_chronicle_54 (by decide) ?_
            refine lv_imul hx hb dX5_chronicle_55 ?_
            refine lv_iload_n hx hb dX5_chronicle_56 rfl (lv_at hl 2 rfl) ?_
            refine lv_iadd hx hb dX5_chronicle_57 ?_
            refine m_ld8 F hK hw (inRow hc0 c_6 c_22 c_26 c_31) dX5_chronicle_58 ?_
            exact ct_iret hx hb hr (vp_nar_int _) hlocks hK hw dX5_chronicle_59 (Nat.le_of_ble_eq_true rfl) (Nat.le_of_ble_eq_true rfl) (Or.inl ⟨⟨c_6, c_12, c_22, c_26, c_31⟩, rfl, rfl⟩)
          · skip
            refine lv_bipush (v := -99) hx hb dX5_chronicle_34 (by decide) ?_
            exact ct_iret hx hb hr (vp_nar_int _) hlocks hK hw dX5_chronicle_36 (Nat.le_of_ble_eq_true rfl) (Nat.le_of_ble_eq_true rfl) (Or.inr ⟨fun h => c_31 h.2.2.2.2, rfl, rfl⟩)

set_option maxHeartbeats 4000000 in
set_option maxRecDepth 100000 in
theorem c_m_book (l : Launch) (G : va_G) (Y : Nat → ClassId) (x : Nat) (ad : Nat → Nat) (d sc sz : Nat → Int32) (sg : Nat → Int64) (ik cp wt wa ch ct : Nat → Int32) (th : Int32) (p0 : Int32) (p1 : Int32) (hd : dOK d) : ctI l G Y (mW Y x ad) yX5_book wsX5_book ({ frames := 1, cells := 0, slots := 0, locals := 40 }) [.ref x, .int p0, .int p1] (d, sc, sz, sg, ik, cp, wt, wa, ch, ct, th) (fun r u' => ((isD p0 ∧ ¬ p1 < 0 ∧ p1 ≤ 1) ∧ r = (if 0 ≤ d (cl p0) then (if p1 = 0 then sc (cl (d (cl p0))) else sz (cl (d (cl p0)))) else d (cl p0)) ∧ u' = (d, sc, sz, sg, ik, cp, wt, wa, ch, ct, 0)) ∨ (¬ (isD p0 ∧ ¬ p1 < 0 ∧ p1 ≤ 1) ∧ r = -99 ∧ u' = (d, sc, sz, sg, ik, cp, wt, wa, ch, ct, 0))) := by
  refine ctI.of (cc := cX5_book) (maxL := 3) (ret := (some .int)) (by decide) rfl (Nat.le_of_ble_eq_true rfl) ?_
  intro A p e s m below meth c ls hB
  obtain ⟨F, hr, hlocks, hnm, hK, hA, hw, hl⟩ := hB
  obtain ⟨hx, hb, hml, hown, hts⟩ := id F
  have hl : lv_has ls 3 [(0, .ref x), (1, .int p0), (2, .int p1)] := hl
  have hi : ∀ w ∈ wsX50, w ∈ wsX5_book := by decide +kernel
  have hl7 : Cond.fieldLink RX5 7 "ScriptoriumModel" "desk" "[I" ∈ wsX5_book := by decide +kernel
  have hl13 : Cond.fieldLink RX5 13 "ScriptoriumModel" "script" "[I" ∈ wsX5_book := by decide +kernel
  have hl16 : Cond.fieldLink RX5 16 "ScriptoriumModel" "size" "[I" ∈ wsX5_book := by decide +kernel
  have hl41 : Cond.fieldLink RX5 41 "ScriptoriumModel" "thrown" "I" ∈ wsX5_book := by decide +kernel
  refine lv_aload_n hx hb dX5_book_0 rfl (lv_at hl 0 rfl) ?_
  refine lv_iconst (v := 0) hx hb dX5_book_1 (by decide) ?_
  refine m_put10 F hi hl41 hK hw dX5_book_2 (fun H locs hw => ?_)
  refine lv_iload_n hx hb dX5_book_5 rfl (lv_at hl 1 rfl) ?_
  refine (c_m_isDesk l G Y x ad _ _ _ _ _ _ _ _ _ _ _ _).callS F (va_cwS 1 hts gX5_book_X5_isDesk rfl rfl rfl (by decide +kernel) ⟨Nat.le_of_ble_eq_true rfl, Nat.le_of_ble_eq_true rfl⟩) hK hw hA rfl rfl hl.1 (Nat.le_of_ble_eq_true rfl) dX5_book_6 ⟨Nat.le_of_ble_eq_true rfl, Nat.le_of_ble_eq_true rfl⟩ (fun r_6 u_6 H locs hp_6 hw => ?_)
  obtain ⟨rfl, ⟨hq_6, rfl⟩ | ⟨hq_6, rfl⟩⟩ := hp_6
  · skip
    refine lv_if_eq (tgt := 21) hx hb dX5_book_9 (by decide) (fun c_9 => ?_) (fun c_9 => ?_)
    · exact absurd c_9 (by decide)
    · skip
      refine lv_iload_n hx hb dX5_book_12 rfl (lv_at hl 2 rfl) ?_
      refine lv_if_lt (tgt := 21) hx hb dX5_book_13 (by decide) (fun c_13 => ?_) (fun c_13 => ?_)
      · skip
        refine lv_bipush (v := -99) hx hb dX5_book_21 (by decide) ?_
        exact ct_iret hx hb hr (vp_nar_int _) hlocks hK hw dX5_book_23 (Nat.le_of_ble_eq_true rfl) (Nat.le_of_ble_eq_true rfl) (Or.inr ⟨fun h => h.2.1 c_13, rfl, rfl⟩)
      · skip
        refine lv_iload_n hx hb dX5_book_16 rfl (lv_at hl 2 rfl) ?_
        refine lv_iconst (v := 1) hx hb dX5_book_17 (by decide) ?_
        refine lv_icmp_le (tgt := 24) hx hb dX5_book_18 (by decide) (fun c_18 => ?_) (fun c_18 => ?_)
        · skip
          refine lv_aload_n hx hb dX5_book_24 rfl (lv_at hl 0 rfl) ?_
          refine m_get0 F hi hl7 hK hw dX5_book_25 ?_
          refine lv_iload_n hx hb dX5_book_28 rfl (lv_at hl 1 rfl) ?_
          refine m_ld0 F hK hw hq_6.in dX5_book_29 ?_
          refine lv_if_ge (tgt := 42) hx hb dX5_book_30 (by decide) (fun c_30 => ?_) (fun c_30 => ?_)
          · skip
            refine lv_iload_n hx hb dX5_book_42 rfl (lv_at hl 2 rfl) ?_
            refine lv_if_ne (tgt := 60) hx hb dX5_book_43 (by decide) (fun c_43 => ?_) (fun c_43 => ?_)
            · skip
              refine lv_aload_n hx hb dX5_book_60 rfl (lv_at hl 0 rfl) ?_
              refine m_get2 F hi hl16 hK hw dX5_book_61 ?_
              refine lv_aload_n hx hb dX5_book_64 rfl (lv_at hl 0 rfl) ?_
              refine m_get0 F hi hl7 hK hw dX5_book_65 ?_
              refine lv_iload_n hx hb dX5_book_68 rfl (lv_at hl 1 rfl) ?_
              refine m_ld0 F hK hw hq_6.in dX5_book_69 ?_
              refine m_ld2 F hK hw (hd.pos hq_6 (Int32.not_lt.mpr c_30)).in dX5_book_70 ?_
              exact ct_iret hx hb hr (vp_nar_int _) hlocks hK hw dX5_book_71 (Nat.le_of_ble_eq_true rfl) (Nat.le_of_ble_eq_true rfl) (Or.inl ⟨⟨hq_6, c_13, c_18⟩, by rw [if_pos c_30, if_neg c_43], rfl⟩)
            · skip
              refine lv_aload_n hx hb dX5_book_46 rfl (lv_at hl 0 rfl) ?_
              refine m_get1 F hi hl13 hK hw dX5_book_47 ?_
              refine lv_aload_n hx hb dX5_book_50 rfl (lv_at hl 0 rfl) ?_
              refine m_get0 F hi hl7 hK hw dX5_book_51 ?_
              refine lv_iload_n hx hb dX5_book_54 rfl (lv_at hl 1 rfl) ?_
              refine m_ld0 F hK hw hq_6.in dX5_book_55 ?_
              refine m_ld1 F hK hw (hd.pos hq_6 (Int32.not_lt.mpr c_30)).in dX5_book_56 ?_
              refine lv_goto (tgt := 71) hx hb dX5_book_57 (by decide) ?_
              exact ct_iret hx hb hr (vp_nar_int _) hlocks hK hw dX5_book_71 (Nat.le_of_ble_eq_true rfl) (Nat.le_of_ble_eq_true rfl) (Or.inl ⟨⟨hq_6, c_13, c_18⟩, by rw [if_pos c_30, if_pos c_43], rfl⟩)
          · skip
            refine lv_aload_n hx hb dX5_book_33 rfl (lv_at hl 0 rfl) ?_
            refine m_get0 F hi hl7 hK hw dX5_book_34 ?_
            refine lv_iload_n hx hb dX5_book_37 rfl (lv_at hl 1 rfl) ?_
            refine m_ld0 F hK hw hq_6.in dX5_book_38 ?_
            refine lv_goto (tgt := 71) hx hb dX5_book_39 (by decide) ?_
            exact ct_iret hx hb hr (vp_nar_int _) hlocks hK hw dX5_book_71 (Nat.le_of_ble_eq_true rfl) (Nat.le_of_ble_eq_true rfl) (Or.inl ⟨⟨hq_6, c_13, c_18⟩, by rw [if_neg c_30], rfl⟩)
        · skip
          refine lv_bipush (v := -99) hx hb dX5_book_21 (by decide) ?_
          exact ct_iret hx hb hr (vp_nar_int _) hlocks hK hw dX5_book_23 (Nat.le_of_ble_eq_true rfl) (Nat.le_of_ble_eq_true rfl) (Or.inr ⟨fun h => c_18 h.2.2, rfl, rfl⟩)
  · skip
    refine lv_if_eq (tgt := 21) hx hb dX5_book_9 (by decide) (fun c_9 => ?_) (fun c_9 => ?_)
    · skip
      refine lv_bipush (v := -99) hx hb dX5_book_21 (by decide) ?_
      exact ct_iret hx hb hr (vp_nar_int _) hlocks hK hw dX5_book_23 (Nat.le_of_ble_eq_true rfl) (Nat.le_of_ble_eq_true rfl) (Or.inr ⟨fun h => hq_6 h.1, rfl, rfl⟩)
    · exact absurd rfl c_9

set_option maxHeartbeats 4000000 in
set_option maxRecDepth 100000 in
theorem c_m_sign (l : Launch) (G : va_G) (Y : Nat → ClassId) (x : Nat) (ad : Nat → Nat) (d sc sz : Nat → Int32) (sg : Nat → Int64) (ik cp wt wa ch ct : Nat → Int32) (th : Int32) (p0 : Int32) (p1 : Int32) (hd : dOK d) (hz : zOK sz) : ctJ l G Y (mW Y x ad) yX5_sign wsX5_sign ({ frames := 1, cells := 0, slots := 0, locals := 40 }) [.ref x, .int p0, .int p1] (d, sc, sz, sg, ik, cp, wt, wa, ch, ct, th) (fun r u' => (¬ (isD p0 ∧ ¬ d (cl p0) < 0) ∧ r = 0 ∧ u' = (d, sc, sz, sg, ik, cp, wt, wa, ch, ct, 1)) ∨ ((isD p0 ∧ ¬ d (cl p0) < 0) ∧ ¬ (¬ p1 < 0 ∧ p1 < sz (cl (d (cl p0)))) ∧ r = 0 ∧ u' = (d, sc, sz, sg, ik, cp, wt, wa, ch, ct, 2)) ∨ ((isD p0 ∧ ¬ d (cl p0) < 0) ∧ (¬ p1 < 0 ∧ p1 < sz (cl (d (cl p0)))) ∧ r = sg (cl (40 * d (cl p0) + p1)) ∧ u' = (d, sc, sz, sg, ik, cp, wt, wa, ch, ct, 0))) := by
  refine ctJ.of (cc := cX5_sign) (maxL := 3) (ret := (some .long)) (by decide) rfl (Nat.le_of_ble_eq_true rfl) ?_
  intro A p e s m below meth c ls hB
  obtain ⟨F, hr, hlocks, hnm, hK, hA, hw, hl⟩ := hB
  obtain ⟨hx, hb, hml, hown, hts⟩ := id F
  have hl : lv_has ls 3 [(0, .ref x), (1, .int p0), (2, .int p1)] := hl
  have hi : ∀ w ∈ wsX50, w ∈ wsX5_sign := by decide +kernel
  have hl7 : Cond.fieldLink RX5 7 "ScriptoriumModel" "desk" "[I" ∈ wsX5_sign := by decide +kernel
  have hl16 : Cond.fieldLink RX5 16 "ScriptoriumModel" "size" "[I" ∈ wsX5_sign := by decide +kernel
  have hl19 : Cond.fieldLink RX5 19 "ScriptoriumModel" "sign" "[J" ∈ wsX5_sign := by decide +kernel
  have hl41 : Cond.fieldLink RX5 41 "ScriptoriumModel" "thrown" "I" ∈ wsX5_sign := by decide +kernel
  refine lv_aload_n hx hb dX5_sign_0 rfl (lv_at hl 0 rfl) ?_
  refine lv_iconst (v := 0) hx hb dX5_sign_1 (by decide) ?_
  refine m_put10 F hi hl41 hK hw dX5_sign_2 (fun H locs hw => ?_)
  refine lv_aload_n hx hb dX5_sign_5 rfl (lv_at hl 0 rfl) ?_
  refine lv_iload_n hx hb dX5_sign_6 rfl (lv_at hl 1 rfl) ?_
  refine (c_m_isDesk l G Y x ad _ _ _ _ _ _ _ _ _ _ _ _).callS F (va_cwS 1 hts gX5_sign_X5_isDesk rfl rfl rfl (by decide +kernel) ⟨Nat.le_of_ble_eq_true rfl, Nat.le_of_ble_eq_true rfl⟩) hK hw hA rfl rfl hl.1 (Nat.le_of_ble_eq_true rfl) dX5_sign_7 ⟨Nat.le_of_ble_eq_true rfl, Nat.le_of_ble_eq_true rfl⟩ (fun r_7 u_7 H locs hp_7 hw => ?_)
  obtain ⟨rfl, ⟨hq_7, rfl⟩ | ⟨hq_7, rfl⟩⟩ := hp_7
  · skip
    refine lv_if_eq (tgt := 22) hx hb dX5_sign_10 (by decide) (fun c_10 => ?_) (fun c_10 => ?_)
    · exact absurd c_10 (by decide)
    · skip
      refine lv_aload_n hx hb dX5_sign_13 rfl (lv_at hl 0 rfl) ?_
      refine m_get0 F hi hl7 hK hw dX5_sign_14 ?_
      refine lv_iload_n hx hb dX5_sign_17 rfl (lv_at hl 1 rfl) ?_
      refine m_ld0 F hK hw hq_7.in dX5_sign_18 ?_
      refine lv_if_ge (tgt := 26) hx hb dX5_sign_19 (by decide) (fun c_19 => ?_) (fun c_19 => ?_)
      · skip
        refine lv_iload_n hx hb dX5_sign_26 rfl (lv_at hl 2 rfl) ?_
        refine lv_if_lt (tgt := 45) hx hb dX5_sign_27 (by decide) (fun c_27 => ?_) (fun c_27 => ?_)
        · skip
          refine lv_iconst (v := 2) hx hb dX5_sign_45 (by decide) ?_
          refine lv_goto (tgt := 50) hx hb dX5_sign_46 (by decide) ?_
          refine m_put10 F hi hl41 hK hw dX5_sign_50 (fun H locs hw => ?_)
          refine lv_aload_n hx hb dX5_sign_53 rfl (lv_at hl 0 rfl) ?_
          refine m_get10 F hi hl41 hK hw dX5_sign_54 ?_
          refine lv_if_le (tgt := 64) hx hb dX5_sign_57 (by decide) (fun c_57 => ?_) (fun c_57 => ?_)
          · exact absurd c_57 (by decide)
          · skip
            refine lv_lconst (v := 0) hx hb dX5_sign_60 (by decide) ?_
            refine lv_goto (tgt := 80) hx hb dX5_sign_61 (by decide) ?_
            exact ct_lret hx hb hr hlocks hK hw dX5_sign_80 (Nat.le_of_ble_eq_true rfl) (Nat.le_of_ble_eq_true rfl) (Or.inr (Or.inl ⟨⟨hq_7, Int32.not_lt.mpr c_19⟩, fun h => h.1 c_27, rfl, rfl⟩))
        · skip
          refine lv_iload_n hx hb dX5_sign_30 rfl (lv_at hl 2 rfl) ?_
          refine lv_aload_n hx hb dX5_sign_31 rfl (lv_at hl 0 rfl) ?_
          refine m_get2 F hi hl16 hK hw dX5_sign_32 ?_
          refine lv_aload_n hx hb dX5_sign_35 rfl (lv_at hl 0 rfl) ?_
          refine m_get0 F hi hl7 hK hw dX5_sign_36 ?_
          refine lv_iload_n hx hb dX5_sign_39 rfl (lv_at hl 1 rfl) ?_
          refine m_ld0 F hK hw hq_7.in dX5_sign_40 ?_
          refine m_ld2 F hK hw (hd.pos hq_7 (Int32.not_lt.mpr c_19)).in dX5_sign_41 ?_
          refine lv_icmp_lt (tgt := 49) hx hb dX5_sign_42 (by decide) (fun c_42 => ?_) (fun c_42 => ?_)
          · skip
            refine lv_iconst (v := 0) hx hb dX5_sign_49 (by decide) ?_
            refine m_put10 F hi hl41 hK hw dX5_sign_50 (fun H locs hw => ?_)
            refine lv_aload_n hx hb dX5_sign_53 rfl (lv_at hl 0 rfl) ?_
            refine m_get10 F hi hl41 hK hw dX5_sign_54 ?_
            refine lv_if_le (tgt := 64) hx hb dX5_sign_57 (by decide) (fun c_57 => ?_) (fun c_57 => ?_)
            · skip
              refine lv_aload_n hx hb dX5_sign_64 rfl (lv_at hl 0 rfl) ?_
              refine m_get3 F hi hl19 hK hw dX5_sign_65 ?_
              refine lv_bipush (v := 40) hx hb dX5_sign_68 (by decide) ?_
              refine lv_aload_n hx hb dX5_sign_70 rfl (lv_at hl 0 rfl) ?_
              refine m_get0 F hi hl7 hK hw dX5_sign_71 ?_
              refine lv_iload_n hx hb dX5_sign_74 rfl (lv_at hl 1 rfl) ?_
              refine m_ld0 F hK hw hq_7.in dX5_sign_75 ?_
              refine lv_imul hx hb dX5_sign_76 ?_
              refine lv_iload_n hx hb dX5_sign_77 rfl (lv_at hl 2 rfl) ?_
              refine lv_iadd hx hb dX5_sign_78 ?_
              obtain ⟨b9, k9, g1, g2, g3, g4, -⟩ := inSign hd hz hq_7 (Int32.not_lt.mpr c_19) c_27 c_42
              refine m_ld3 F hK hw (in40v g1 g2 g3 g4) dX5_sign_79 ?_
              exact ct_lret hx hb hr hlocks hK hw dX5_sign_80 (Nat.le_of_ble_eq_true rfl) (Nat.le_of_ble_eq_true rfl) (Or.inr (Or.inr ⟨⟨hq_7, Int32.not_lt.mpr c_19⟩, ⟨c_27, c_42⟩, rfl, rfl⟩))
            · exact absurd (by decide) c_57
          · skip
            refine lv_iconst (v := 2) hx hb dX5_sign_45 (by decide) ?_
            refine lv_goto (tgt := 50) hx hb dX5_sign_46 (by decide) ?_
            refine m_put10 F hi hl41 hK hw dX5_sign_50 (fun H locs hw => ?_)
            refine lv_aload_n hx hb dX5_sign_53 rfl (lv_at hl 0 rfl) ?_
            refine m_get10 F hi hl41 hK hw dX5_sign_54 ?_
            refine lv_if_le (tgt := 64) hx hb dX5_sign_57 (by decide) (fun c_57 => ?_) (fun c_57 => ?_)
            · exact absurd c_57 (by decide)
            · skip
              refine lv_lconst (v := 0) hx hb dX5_sign_60 (by decide) ?_
              refine lv_goto (tgt := 80) hx hb dX5_sign_61 (by decide) ?_
              exact ct_lret hx hb hr hlocks hK hw dX5_sign_80 (Nat.le_of_ble_eq_true rfl) (Nat.le_of_ble_eq_true rfl) (Or.inr (Or.inl ⟨⟨hq_7, Int32.not_lt.mpr c_19⟩, fun h => c_42 h.2, rfl, rfl⟩))
      · skip
        refine lv_iconst (v := 1) hx hb dX5_sign_22 (by decide) ?_
        refine lv_goto (tgt := 50) hx hb dX5_sign_23 (by decide) ?_
        refine m_put10 F hi hl41 hK hw dX5_sign_50 (fun H locs hw => ?_)
        refine lv_aload_n hx hb dX5_sign_53 rfl (lv_at hl 0 rfl) ?_
        refine m_get10 F hi hl41 hK hw dX5_sign_54 ?_
        refine lv_if_le (tgt := 64) hx hb dX5_sign_57 (by decide) (fun c_57 => ?_) (fun c_57 => ?_)
        · exact absurd c_57 (by decide)
        · skip
          refine lv_lconst (v := 0) hx hb dX5_sign_60 (by decide) ?_
          refine lv_goto (tgt := 80) hx hb dX5_sign_61 (by decide) ?_
          exact ct_lret hx hb hr hlocks hK hw dX5_sign_80 (Nat.le_of_ble_eq_true rfl) (Nat.le_of_ble_eq_true rfl) (Or.inl ⟨fun h => c_19 (Int32.not_lt.mp h.2), rfl, rfl⟩)
  · skip
    refine lv_if_eq (tgt := 22) hx hb dX5_sign_10 (by decide) (fun c_10 => ?_) (fun c_10 => ?_)
    · skip
      refine lv_iconst (v := 1) hx hb dX5_sign_22 (by decide) ?_
      refine lv_goto (tgt := 50) hx hb dX5_sign_23 (by decide) ?_
      refine m_put10 F hi hl41 hK hw dX5_sign_50 (fun H locs hw => ?_)
      refine lv_aload_n hx hb dX5_sign_53 rfl (lv_at hl 0 rfl) ?_
      refine m_get10 F hi hl41 hK hw dX5_sign_54 ?_
      refine lv_if_le (tgt := 64) hx hb dX5_sign_57 (by decide) (fun c_57 => ?_) (fun c_57 => ?_)
      · exact absurd c_57 (by decide)
      · skip
        refine lv_lconst (v := 0) hx hb dX5_sign_60 (by decide) ?_
        refine lv_goto (tgt := 80) hx hb dX5_sign_61 (by decide) ?_
        exact ct_lret hx hb hr hlocks hK hw dX5_sign_80 (Nat.le_of_ble_eq_true rfl) (Nat.le_of_ble_eq_true rfl) (Or.inl ⟨fun h => hq_7 h.1, rfl, rfl⟩)
    · exact absurd rfl c_10

set_option maxHeartbeats 4000000 in
set_option maxRecDepth 100000 in
theorem c_m_order (l : Launch) (G : va_G) (Y : Nat → ClassId) (x : Nat) (ad : Nat → Nat) (d sc sz : Nat → Int32) (sg : Nat → Int64) (ik cp wt wa ch ct : Nat → Int32) (th : Int32) (p0 : Int32) (p1 : Int32) (p2 : Int32) (p3 : Int32) (p4 : Int32) (p5 : Int32) (hwa : wOK wa) : ctI l G Y (mW Y x ad) yX5_order wsX5_order ({ frames := 1, cells := 0, slots := 0, locals := 40 }) [.ref x, .int p0, .int p1, .int p2, .int p3, .int p4, .int p5] (d, sc, sz, sg, ik, cp, wt, wa, ch, ct, th) (fun r u' => ((isS p0 ∧ isD p1 ∧ isD p3 ∧ ¬ wa (cl p0) = 8) ∧ r = wa (cl p0) + 1 ∧ u' = (d, sc, sz, sg, ik, cp, mWt wt (mOrdAt p0 (wa (cl p0))) p1 p2 p3 p4 p5, upd wa (cl p0) (wa (cl p0) + 1), ch, ct, 0)) ∨ (¬ (isS p0 ∧ isD p1 ∧ isD p3 ∧ ¬ wa (cl p0) = 8) ∧ r = -99 ∧ u' = (d, sc, sz, sg, ik, cp, wt, wa, ch, ct, 0))) := by
  refine ctI.of (cc := cX5_order) (maxL := 8) (ret := (some .int)) (by decide) rfl (Nat.le_of_ble_eq_true rfl) ?_
  intro A p e s m below meth c ls hB
  obtain ⟨F, hr, hlocks, hnm, hK, hA, hw, hl⟩ := hB
  obtain ⟨hx, hb, hml, hown, hts⟩ := id F
  have hl : lv_has ls 8 [(0, .ref x), (1, .int p0), (2, .int p1), (3, .int p2), (4, .int p3), (5, .int p4), (6, .int p5)] := hl
  have hi : ∀ w ∈ wsX50, w ∈ wsX5_order := by decide +kernel
  have hl29 : Cond.fieldLink RX5 29 "ScriptoriumModel" "wait" "[I" ∈ wsX5_order := by decide +kernel
  have hl32 : Cond.fieldLink RX5 32 "ScriptoriumModel" "waits" "[I" ∈ wsX5_order := by decide +kernel
  have hl41 : Cond.fieldLink RX5 41 "ScriptoriumModel" "thrown" "I" ∈ wsX5_order := by decide +kernel
  refine lv_aload_n hx hb dX5_order_0 rfl (lv_at hl 0 rfl) ?_
  refine lv_iconst (v := 0) hx hb dX5_order_1 (by decide) ?_
  refine m_put10 F hi hl41 hK hw dX5_order_2 (fun H locs hw => ?_)
  refine lv_iload_n hx hb dX5_order_5 rfl (lv_at hl 1 rfl) ?_
  refine (c_m_isScribe l G Y x ad _ _ _ _ _ _ _ _ _ _ _ _).callS F (va_cwS 1 hts gX5_order_X5_isScribe rfl rfl rfl (by decide +kernel) ⟨Nat.le_of_ble_eq_true rfl, Nat.le_of_ble_eq_true rfl⟩) hK hw hA rfl rfl hl.1 (Nat.le_of_ble_eq_true rfl) dX5_order_6 ⟨Nat.le_of_ble_eq_true rfl, Nat.le_of_ble_eq_true rfl⟩ (fun r_6 u_6 H locs hp_6 hw => ?_)
  obtain ⟨rfl, ⟨hq_6, rfl⟩ | ⟨hq_6, rfl⟩⟩ := hp_6
  · skip
    refine lv_if_eq (tgt := 38) hx hb dX5_order_9 (by decide) (fun c_9 => ?_) (fun c_9 => ?_)
    · exact absurd c_9 (by decide)
    · skip
      refine lv_iload_n hx hb dX5_order_12 rfl (lv_at hl 2 rfl) ?_
      refine (c_m_isDesk l G Y x ad _ _ _ _ _ _ _ _ _ _ _ _).callS F (va_cwS 1 hts gX5_order_X5_isDesk rfl rfl rfl (by decide +kernel) ⟨Nat.le_of_ble_eq_true rfl, Nat.le_of_ble_eq_true rfl⟩) hK hw hA rfl rfl hl.1 (Nat.le_of_ble_eq_true rfl) dX5_order_13 ⟨Nat.le_of_ble_eq_true rfl, Nat.le_of_ble_eq_true rfl⟩ (fun r_13 u_13 H locs hp_13 hw => ?_)
      obtain ⟨rfl, ⟨hq_13, rfl⟩ | ⟨hq_13, rfl⟩⟩ := hp_13
      · skip
        refine lv_if_eq (tgt := 38) hx hb dX5_order_16 (by decide) (fun c_16 => ?_) (fun c_16 => ?_)
        · exact absurd c_16 (by decide)
        · skip
          refine lv_iload hx hb dX5_order_19 (lv_at hl 4 rfl) ?_
          refine (c_m_isDesk l G Y x ad _ _ _ _ _ _ _ _ _ _ _ _).callS F (va_cwS 1 hts gX5_order_X5_isDesk rfl rfl rfl (by decide +kernel) ⟨Nat.le_of_ble_eq_true rfl, Nat.le_of_ble_eq_true rfl⟩) hK hw hA rfl rfl hl.1 (Nat.le_of_ble_eq_true rfl) dX5_order_21 ⟨Nat.le_of_ble_eq_true rfl, Nat.le_of_ble_eq_true rfl⟩ (fun r_21 u_21 H locs hp_21 hw => ?_)
          obtain ⟨rfl, ⟨hq_21, rfl⟩ | ⟨hq_21, rfl⟩⟩ := hp_21
          · skip
            refine lv_if_eq (tgt := 38) hx hb dX5_order_24 (by decide) (fun c_24 => ?_) (fun c_24 => ?_)
            · exact absurd c_24 (by decide)
            · skip
              refine lv_aload_n hx hb dX5_order_27 rfl (lv_at hl 0 rfl) ?_
              refine m_get7 F hi hl32 hK hw dX5_order_28 ?_
              refine lv_iload_n hx hb dX5_order_31 rfl (lv_at hl 1 rfl) ?_
              refine m_ld7 F hK hw hq_6.in dX5_order_32 ?_
              refine lv_bipush (v := 8) hx hb dX5_order_33 (by decide) ?_
              refine lv_icmp_ne (tgt := 41) hx hb dX5_order_35 (by decide) (fun c_35 => ?_) (fun c_35 => ?_)
              · skip
                refine lv_iconst (v := 5) hx hb dX5_order_41 (by decide) ?_
                refine lv_bipush (v := 8) hx hb dX5_order_42 (by decide) ?_
                refine lv_iload_n hx hb dX5_order_44 rfl (lv_at hl 1 rfl) ?_
                refine lv_imul hx hb dX5_order_45 ?_
                refine lv_aload_n hx hb dX5_order_46 rfl (lv_at hl 0 rfl) ?_
                refine m_get7 F hi hl32 hK hw dX5_order_47 ?_
                refine lv_iload_n hx hb dX5_order_50 rfl (lv_at hl 1 rfl) ?_
                refine m_ld7 F hK hw hq_6.in dX5_order_51 ?_
                refine lv_iadd hx hb dX5_order_52 ?_
                refine lv_imul hx hb dX5_order_53 ?_
                refine lv_topi (fun at_ eat => ?_)
                obtain ⟨s9, w9, g1, g2, g3, g4, g5⟩ := inOrd hwa hq_6 c_35
                have eat : at_ = mOrdAt p0 (wa (cl p0)) := eat
                rw [← eat] at g5
                refine lv_istore (lv' := [(7, .int _), (0, .ref _), (1, .int _), (2, .int _), (3, .int _), (4, .int _), (5, .int _), (6, .int _)]) hx hb dX5_order_54 hl (by decide) rfl (fun ls hl => ?_)
                refine lv_aload_n hx hb dX5_order_56 rfl (lv_at hl 1 rfl) ?_
                refine m_get6 F hi hl29 hK hw dX5_order_57 ?_
                refine lv_iload hx hb dX5_order_60 (lv_at hl 0 rfl) ?_
                refine lv_iload_n hx hb dX5_order_62 rfl (lv_at hl 3 rfl) ?_
                refine m_st6 F hK hw (inOrd0 (g5 0 (by decide)).1) dX5_order_63 (fun H locs hw => ?_)
                refine lv_aload_n hx hb dX5_order_64 rfl (lv_at hl 1 rfl) ?_
                refine m_get6 F hi hl29 hK hw dX5_order_65 ?_
                refine lv_iload hx hb dX5_order_68 (lv_at hl 0 rfl) ?_
                refine lv_iconst (v := 1) hx hb dX5_order_70 (by decide) ?_
                refine lv_iadd hx hb dX5_order_71 ?_
                refine lv_iload_n hx hb dX5_order_72 rfl (lv_at hl 4 rfl) ?_
                refine m_st6 F hK hw (g5 1 (by decide)).1 dX5_order_73 (fun H locs hw => ?_)
                refine lv_aload_n hx hb dX5_order_74 rfl (lv_at hl 1 rfl) ?_
                refine m_get6 F hi hl29 hK hw dX5_order_75 ?_
                refine lv_iload hx hb dX5_order_78 (lv_at hl 0 rfl) ?_
                refine lv_iconst (v := 2) hx hb dX5_order_80 (by decide) ?_
                refine lv_iadd hx hb dX5_order_81 ?_
                refine lv_iload hx hb dX5_order_82 (lv_at hl 5 rfl) ?_
                refine m_st6 F hK hw (g5 2 (by decide)).1 dX5_order_84 (fun H locs hw => ?_)
                refine lv_aload_n hx hb dX5_order_85 rfl (lv_at hl 1 rfl) ?_
                refine m_get6 F hi hl29 hK hw dX5_order_86 ?_
                refine lv_iload hx hb dX5_order_89 (lv_at hl 0 rfl) ?_
                refine lv_iconst (v := 3) hx hb dX5_order_91 (by decide) ?_
                refine lv_iadd hx hb dX5_order_92 ?_
                refine lv_iload hx hb dX5_order_93 (lv_at hl 6 rfl) ?_
                refine m_st6 F hK hw (g5 3 (by decide)).1 dX5_order_95 (fun H locs hw => ?_)
                refine lv_aload_n hx hb dX5_order_96 rfl (lv_at hl 1 rfl) ?_
                refine m_get6 F hi hl29 hK hw dX5_order_97 ?_
                refine lv_iload hx hb dX5_order_100 (lv_at hl 0 rfl) ?_
                refine lv_iconst (v := 4) hx hb dX5_order_102 (by decide) ?_
                refine lv_iadd hx hb dX5_order_103 ?_
                refine lv_iload hx hb dX5_order_104 (lv_at hl 7 rfl) ?_
                refine m_st6 F hK hw (g5 4 (by decide)).1 dX5_order_106 (fun H locs hw => ?_)
                refine lv_aload_n hx hb dX5_order_107 rfl (lv_at hl 1 rfl) ?_
                refine m_get7 F hi hl32 hK hw dX5_order_108 ?_
                refine lv_iload_n hx hb dX5_order_111 rfl (lv_at hl 2 rfl) ?_
                refine lv_dup2_11 hx hb dX5_order_112 rfl rfl ?_
                refine m_ld7 F hK hw hq_6.in dX5_order_113 ?_
                refine lv_iconst (v := 1) hx hb dX5_order_114 (by decide) ?_
                refine lv_iadd hx hb dX5_order_115 ?_
                refine m_st7 F hK hw hq_6.in dX5_order_116 (fun H locs hw => ?_)
                refine lv_aload_n hx hb dX5_order_117 rfl (lv_at hl 1 rfl) ?_
                refine m_get7 F hi hl32 hK hw dX5_order_118 ?_
                refine lv_iload_n hx hb dX5_order_121 rfl (lv_at hl 2 rfl) ?_
                refine m_ld7 F hK hw hq_6.in dX5_order_122 ?_
                exact ct_iret hx hb hr (vp_nar_int _) hlocks hK hw dX5_order_123 (Nat.le_of_ble_eq_true rfl) (Nat.le_of_ble_eq_true rfl) (Or.inl ⟨⟨hq_6, hq_13, hq_21, c_35⟩, by rw [pk_us], by rw [eat]; rfl⟩)
              · skip
                refine lv_bipush (v := -99) hx hb dX5_order_38 (by decide) ?_
                exact ct_iret hx hb hr (vp_nar_int _) hlocks hK hw dX5_order_40 (Nat.le_of_ble_eq_true rfl) (Nat.le_of_ble_eq_true rfl) (Or.inr ⟨fun h => h.2.2.2 c_35, rfl, rfl⟩)
          · skip
            refine lv_if_eq (tgt := 38) hx hb dX5_order_24 (by decide) (fun c_24 => ?_) (fun c_24 => ?_)
            · skip
              refine lv_bipush (v := -99) hx hb dX5_order_38 (by decide) ?_
              exact ct_iret hx hb hr (vp_nar_int _) hlocks hK hw dX5_order_40 (Nat.le_of_ble_eq_true rfl) (Nat.le_of_ble_eq_true rfl) (Or.inr ⟨fun h => hq_21 h.2.2.1, rfl, rfl⟩)
            · exact absurd rfl c_24
      · skip
        refine lv_if_eq (tgt := 38) hx hb dX5_order_16 (by decide) (fun c_16 => ?_) (fun c_16 => ?_)
        · skip
          refine lv_bipush (v := -99) hx hb dX5_order_38 (by decide) ?_
          exact ct_iret hx hb hr (vp_nar_int _) hlocks hK hw dX5_order_40 (Nat.le_of_ble_eq_true rfl) (Nat.le_of_ble_eq_true rfl) (Or.inr ⟨fun h => hq_13 h.2.1, rfl, rfl⟩)
        · exact absurd rfl c_16
  · skip
    refine lv_if_eq (tgt := 38) hx hb dX5_order_9 (by decide) (fun c_9 => ?_) (fun c_9 => ?_)
    · skip
      refine lv_bipush (v := -99) hx hb dX5_order_38 (by decide) ?_
      exact ct_iret hx hb hr (vp_nar_int _) hlocks hK hw dX5_order_40 (Nat.le_of_ble_eq_true rfl) (Nat.le_of_ble_eq_true rfl) (Or.inr ⟨fun h => hq_6 h.1, rfl, rfl⟩)
    · exact absurd rfl c_9

set_option maxHeartbeats 4000000 in
set_option maxRecDepth 100000 in
theorem c_m_write (l : Launch) (G : va_G) (Y : Nat → ClassId) (x : Nat) (ad : Nat → Nat) (d sc sz : Nat → Int32) (sg : Nat → Int64) (ik cp wt wa ch ct : Nat → Int32) (th : Int32) (p0 : Int32) (p1 : Int32) (p2 : Int32) (v0 : Int64) (hd : dOK d) (hz : zOK sz) (hk0 : isD p0 → ¬ d (cl p0) < 0 → ¬ 5 < sc (cl (d (cl p0))) → (sc (cl (d (cl p0))) = 0 ∨ sc (cl (d (cl p0))) = 1 ∨ sc (cl (d (cl p0))) = 2 ∨ sc (cl (d (cl p0))) = 3 ∨ sc (cl (d (cl p0))) = 4 ∨ sc (cl (d (cl p0))) = 5)) : ctI l G Y (mW Y x ad) yX5_write wsX5_write ({ frames := 1, cells := 0, slots := 0, locals := 60 }) [.ref x, .int p0, .int p1, .int p2, .long v0] (d, sc, sz, sg, ik, cp, wt, wa, ch, ct, th) (fun r u' => mWriteP (d, sc, sz, sg, ik, cp, wt, wa, ch, ct, th) p0 p1 p2 v0 r u') := by
  refine ctI.of (cc := cX5_write) (maxL := 9) (ret := (some .int)) (by decide) rfl (Nat.le_of_ble_eq_true rfl) ?_
  intro A p e s m below meth c ls hB
  obtain ⟨F, hr, hlocks, hnm, hK, hA, hw, hl⟩ := hB
  obtain ⟨hx, hb, hml, hown, hts⟩ := id F
  have hl : lv_has ls 9 [(0, .ref x), (1, .int p0), (2, .int p1), (3, .int p2), (4, .long v0)] := hl
  have hi : ∀ w ∈ wsX50, w ∈ wsX5_write := by decide +kernel
  have hl7 : Cond.fieldLink RX5 7 "ScriptoriumModel" "desk" "[I" ∈ wsX5_write := by decide +kernel
  have hl13 : Cond.fieldLink RX5 13 "ScriptoriumModel" "script" "[I" ∈ wsX5_write := by decide +kernel
  have hl16 : Cond.fieldLink RX5 16 "ScriptoriumModel" "size" "[I" ∈ wsX5_write := by decide +kernel
  have hl19 : Cond.fieldLink RX5 19 "ScriptoriumModel" "sign" "[J" ∈ wsX5_write := by decide +kernel
  have hl41 : Cond.fieldLink RX5 41 "ScriptoriumModel" "thrown" "I" ∈ wsX5_write := by decide +kernel
  refine lv_aload_n hx hb dX5_write_0 rfl (lv_at hl 0 rfl) ?_
  refine lv_iconst (v := 0) hx hb dX5_write_1 (by decide) ?_
  refine m_put10 F hi hl41 hK hw dX5_write_2 (fun H locs hw => ?_)
  refine lv_iload_n hx hb dX5_write_5 rfl (lv_at hl 1 rfl) ?_
  refine (c_m_isDesk l G Y x ad _ _ _ _ _ _ _ _ _ _ _ _).callS F (va_cwS 1 hts gX5_write_X5_isDesk rfl rfl rfl (by decide +kernel) ⟨Nat.le_of_ble_eq_true rfl, Nat.le_of_ble_eq_true rfl⟩) hK hw hA rfl rfl hl.1 (Nat.le_of_ble_eq_true rfl) dX5_write_6 ⟨Nat.le_of_ble_eq_true rfl, Nat.le_of_ble_eq_true rfl⟩ (fun r_6 u_6 H locs hp_6 hw => ?_)
  obtain ⟨rfl, ⟨hq_6, rfl⟩ | ⟨hq_6, rfl⟩⟩ := hp_6
  · skip
    refine lv_if_ne (tgt := 15) hx hb dX5_write_9 (by decide) (fun c_9 => ?_) (fun c_9 => ?_)
    · skip
      refine lv_aload_n hx hb dX5_write_15 rfl (lv_at hl 0 rfl) ?_
      refine m_get0 F hi hl7 hK hw dX5_write_16 ?_
      refine lv_iload_n hx hb dX5_write_19 rfl (lv_at hl 1 rfl) ?_
      refine m_ld0 F hK hw hq_6.in dX5_write_20 ?_
      refine lv_istore (lv' := [(6, .int _), (0, .ref _), (1, .int _), (2, .int _), (3, .int _), (4, .long _)]) hx hb dX5_write_21 hl (by decide) rfl (fun ls hl => ?_)
      refine lv_iload hx hb dX5_write_23 (lv_at hl 0 rfl) ?_
      refine lv_if_lt (tgt := 49) hx hb dX5_write_25 (by decide) (fun c_25 => ?_) (fun c_25 => ?_)
      · skip
        refine lv_iload hx hb dX5_write_49 (lv_at hl 0 rfl) ?_
        refine lv_if_ge (tgt := 57) hx hb dX5_write_51 (by decide) (fun c_51 => ?_) (fun c_51 => ?_)
        · exact absurd c_51 (Int32.not_le.mpr c_25)
        · skip
          refine lv_iload hx hb dX5_write_54 (lv_at hl 0 rfl) ?_
          exact ct_iret hx hb hr (vp_nar_int _) hlocks hK hw dX5_write_56 (Nat.le_of_ble_eq_true rfl) (Nat.le_of_ble_eq_true rfl) (Or.inr (Or.inr (Or.inl ⟨hq_6, c_25, rfl, rfl⟩)))
      · skip
        refine lv_aload_n hx hb dX5_write_28 rfl (lv_at hl 1 rfl) ?_
        refine lv_iload hx hb dX5_write_29 (lv_at hl 0 rfl) ?_
        refine (c_m_isPictures l G Y x ad _ _ _ _ _ _ _ _ _ _ _ _ (hd.pos hq_6 c_25)).callV F (cwV 1 hts gX5_write_X5_isPictures rfl rfl rfl (by decide +kernel) ⟨Nat.le_of_ble_eq_true rfl, Nat.le_of_ble_eq_true rfl⟩) hK hw hA (m_recv hK hw) rfl rfl hl.1 (Nat.le_of_ble_eq_true rfl) dX5_write_31 ⟨Nat.le_of_ble_eq_true rfl, Nat.le_of_ble_eq_true rfl⟩ (fun r_31 u_31 H locs hp_31 hw => ?_)
        obtain ⟨rfl, ⟨hq_31, rfl⟩ | ⟨hq_31, rfl⟩⟩ := hp_31
        · skip
          refine lv_if_eq (tgt := 49) hx hb dX5_write_34 (by decide) (fun c_34 => ?_) (fun c_34 => ?_)
          · exact absurd c_34 (by decide)
          · skip
            refine lv_iload_n hx hb dX5_write_37 rfl (lv_at hl 4 rfl) ?_
            refine lv_if_lt (tgt := 46) hx hb dX5_write_38 (by decide) (fun c_38 => ?_) (fun c_38 => ?_)
            · skip
              refine lv_bipush (v := -99) hx hb dX5_write_46 (by decide) ?_
              exact ct_iret hx hb hr (vp_nar_int _) hlocks hK hw dX5_write_48 (Nat.le_of_ble_eq_true rfl) (Nat.le_of_ble_eq_true rfl) (Or.inr (Or.inl ⟨hq_6, ⟨c_25, hq_31, fun h => h.1 c_38⟩, rfl, rfl⟩))
            · skip
              refine lv_iload_n hx hb dX5_write_41 rfl (lv_at hl 4 rfl) ?_
              refine lv_iconst (v := 2) hx hb dX5_write_42 (by decide) ?_
              refine lv_icmp_le (tgt := 49) hx hb dX5_write_43 (by decide) (fun c_43 => ?_) (fun c_43 => ?_)
              · skip
                refine lv_iload hx hb dX5_write_49 (lv_at hl 0 rfl) ?_
                refine lv_if_ge (tgt := 57) hx hb dX5_write_51 (by decide) (fun c_51 => ?_) (fun c_51 => ?_)
                · skip
                  refine lv_iload_n hx hb dX5_write_57 rfl (lv_at hl 3 rfl) ?_
                  refine lv_if_lt (tgt := 72) hx hb dX5_write_58 (by decide) (fun c_58 => ?_) (fun c_58 => ?_)
                  · skip
                    refine lv_bipush (v := -3) hx hb dX5_write_72 (by decide) ?_
                    exact ct_iret hx hb hr (vp_nar_int _) hlocks hK hw dX5_write_74 (Nat.le_of_ble_eq_true rfl) (Nat.le_of_ble_eq_true rfl) (Or.inr (Or.inr (Or.inr (Or.inl ⟨hq_6, c_25, (fun _ => ⟨c_38, c_43⟩), fun h => h.1 c_58, rfl, rfl⟩))))
                  · skip
                    refine lv_iload_n hx hb dX5_write_61 rfl (lv_at hl 3 rfl) ?_
                    refine lv_aload_n hx hb dX5_write_62 rfl (lv_at hl 1 rfl) ?_
                    refine m_get2 F hi hl16 hK hw dX5_write_63 ?_
                    refine lv_iload hx hb dX5_write_66 (lv_at hl 0 rfl) ?_
                    refine m_ld2 F hK hw (hd.pos hq_6 c_25).in dX5_write_68 ?_
                    refine lv_icmp_lt (tgt := 75) hx hb dX5_write_69 (by decide) (fun c_69 => ?_) (fun c_69 => ?_)
                    · skip
                      refine lv_aload_n hx hb dX5_write_75 rfl (lv_at hl 1 rfl) ?_
                      refine lv_iload hx hb dX5_write_76 (lv_at hl 0 rfl) ?_
                      refine (c_m_isPictures l G Y x ad _ _ _ _ _ _ _ _ _ _ _ _ (hd.pos hq_6 c_25)).callV F (cwV 1 hts gX5_write_X5_isPictures rfl rfl rfl (by decide +kernel) ⟨Nat.le_of_ble_eq_true rfl, Nat.le_of_ble_eq_true rfl⟩) hK hw hA (m_recv hK hw) rfl rfl hl.1 (Nat.le_of_ble_eq_true rfl) dX5_write_78 ⟨Nat.le_of_ble_eq_true rfl, Nat.le_of_ble_eq_true rfl⟩ (fun r_78 u_78 H locs hp_78 hw => ?_)
                      obtain ⟨rfl, ⟨hq_78, rfl⟩ | ⟨hq_78, rfl⟩⟩ := hp_78
                      · skip
                        refine lv_if_ne (tgt := 99) hx hb dX5_write_81 (by decide) (fun c_81 => ?_) (fun c_81 => ?_)
                        · skip
                          refine lv_iload_n hx hb dX5_write_99 rfl (lv_at hl 4 rfl) ?_
                          refine lv_if_ne (tgt := 107) hx hb dX5_write_100 (by decide) (fun c_100 => ?_) (fun c_100 => ?_)
                          · skip
                            refine lv_ldc2 hx hb hown (hts (.constantLong RX5 64 (4)) (by decide +kernel)) dX5_write_107 ?_
                            refine lv_lload hx hb dX5_write_110 (lv_at hl 5 rfl) ?_
                            refine lv_bipush (v := 32) hx hb dX5_write_112 (by decide) ?_
                            refine lv_lshl hx hb dX5_write_114 rfl ?_
                            refine lv_bipush (v := 32) hx hb dX5_write_115 (by decide) ?_
                            refine lv_lshr hx hb dX5_write_117 rfl ?_
                            refine lv_lmul hx hb dX5_write_118 ?_
                            refine lv_iload_n hx hb dX5_write_119 rfl (lv_at hl 4 rfl) ?_
                            refine lv_i2l hx hb dX5_write_120 rfl ?_
                            refine lv_ladd hx hb dX5_write_121 ?_
                            refine lv_topl (fun v9 ev9 => ?_)
                            have ev9 : v9 = mSgn (sc (cl (d (cl p0)))) p2 v0 := ev9.trans (by unfold mSgn; rw [if_pos hq_78, if_neg c_100]; rfl)
                            refine lv_lstore (lv' := [(7, .long _), (6, .int _), (0, .ref _), (1, .int _), (2, .int _), (3, .int _), (4, .long _)]) hx hb dX5_write_122 hl (by decide) rfl (fun ls hl => ?_)
                            refine lv_aload_n hx hb dX5_write_124 rfl (lv_at hl 2 rfl) ?_
                            refine lv_iload hx hb dX5_write_125 (lv_at hl 1 rfl) ?_
                            refine (c_m_isPictures l G Y x ad _ _ _ _ _ _ _ _ _ _ _ _ (hd.pos hq_6 c_25)).callV F (cwV 1 hts gX5_write_X5_isPictures rfl rfl rfl (by decide +kernel) ⟨Nat.le_of_ble_eq_true rfl, Nat.le_of_ble_eq_true rfl⟩) hK hw hA (m_recv hK hw) rfl rfl hl.1 (Nat.le_of_ble_eq_true rfl) dX5_write_127 ⟨Nat.le_of_ble_eq_true rfl, Nat.le_of_ble_eq_true rfl⟩ (fun r_127 u_127 H locs hp_127 hw => ?_)
                            obtain ⟨rfl, ⟨hq_127, rfl⟩ | ⟨hq_127, rfl⟩⟩ := hp_127
                            · skip
                              refine lv_if_eq (tgt := 147) hx hb dX5_write_130 (by decide) (fun c_130 => ?_) (fun c_130 => ?_)
                              · exact absurd c_130 (by decide)
                              · skip
                                refine lv_aload_n hx hb dX5_write_133 rfl (lv_at hl 2 rfl) ?_
                                refine lv_iload hx hb dX5_write_134 (lv_at hl 1 rfl) ?_
                                refine lv_lload hx hb dX5_write_136 (lv_at hl 0 rfl) ?_
                                refine (c_m_may l G Y x ad _ _ _ _ _ _ _ _ _ _ _ _ _ (hd.pos hq_6 c_25)).callV F (cwV 2 hts gX5_write_X5_may rfl rfl rfl (by decide +kernel) ⟨Nat.le_of_ble_eq_true rfl, Nat.le_of_ble_eq_true rfl⟩) hK hw hA (m_recv hK hw) rfl rfl hl.1 (Nat.le_of_ble_eq_true rfl) dX5_write_138 ⟨Nat.le_of_ble_eq_true rfl, Nat.le_of_ble_eq_true rfl⟩ (fun r_138 u_138 H locs hp_138 hw => ?_)
                                obtain ⟨rfl, ⟨hq_138, rfl⟩ | ⟨hq_138, rfl⟩⟩ := hp_138
                                · skip
                                  refine lv_if_ne (tgt := 147) hx hb dX5_write_141 (by decide) (fun c_141 => ?_) (fun c_141 => ?_)
                                  · skip
                                    refine lv_aload_n hx hb dX5_write_147 rfl (lv_at hl 2 rfl) ?_
                                    refine m_get3 F hi hl19 hK hw dX5_write_148 ?_
                                    refine lv_bipush (v := 40) hx hb dX5_write_151 (by decide) ?_
                                    refine lv_iload hx hb dX5_write_153 (lv_at hl 1 rfl) ?_
                                    refine lv_imul hx hb dX5_write_155 ?_
                                    refine lv_iload_n hx hb dX5_write_156 rfl (lv_at hl 4 rfl) ?_
                                    refine lv_iadd hx hb dX5_write_157 ?_
                                    refine lv_lload hx hb dX5_write_158 (lv_at hl 0 rfl) ?_
                                    obtain ⟨b9, k9, g1, g2, g3, g4, -⟩ := inSign hd hz hq_6 c_25 c_58 c_69
                                    refine m_st3 F hK hw (in40v g1 g2 g3 g4) dX5_write_160 (fun H locs hw => ?_)
                                    refine lv_iconst (v := 0) hx hb dX5_write_161 (by decide) ?_
                                    exact ct_iret hx hb hr (vp_nar_int _) hlocks hK hw dX5_write_162 (Nat.le_of_ble_eq_true rfl) (Nat.le_of_ble_eq_true rfl) (Or.inr (Or.inr (Or.inr (Or.inr (Or.inr ⟨hq_6, c_25, (fun _ => ⟨c_38, c_43⟩), ⟨c_58, c_69⟩, (fun _ => by rw [← ev9]; exact hq_138), rfl, by rw [ev9]⟩)))))
                                  · exact absurd c_141 (by decide)
                                · skip
                                  refine lv_if_ne (tgt := 147) hx hb dX5_write_141 (by decide) (fun c_141 => ?_) (fun c_141 => ?_)
                                  · exact absurd rfl c_141
                                  · skip
                                    refine lv_bipush (v := -10) hx hb dX5_write_144 (by decide) ?_
                                    exact ct_iret hx hb hr (vp_nar_int _) hlocks hK hw dX5_write_146 (Nat.le_of_ble_eq_true rfl) (Nat.le_of_ble_eq_true rfl) (Or.inr (Or.inr (Or.inr (Or.inr (Or.inl ⟨hq_6, c_25, (fun _ => ⟨c_38, c_43⟩), ⟨c_58, c_69⟩, ⟨hq_127, by rw [← ev9]; exact hq_138⟩, rfl, rfl⟩)))))
                            · skip
                              refine lv_if_eq (tgt := 147) hx hb dX5_write_130 (by decide) (fun c_130 => ?_) (fun c_130 => ?_)
                              · skip
                                refine lv_aload_n hx hb dX5_write_147 rfl (lv_at hl 2 rfl) ?_
                                refine m_get3 F hi hl19 hK hw dX5_write_148 ?_
                                refine lv_bipush (v := 40) hx hb dX5_write_151 (by decide) ?_
                                refine lv_iload hx hb dX5_write_153 (lv_at hl 1 rfl) ?_
                                refine lv_imul hx hb dX5_write_155 ?_
                                refine lv_iload_n hx hb dX5_write_156 rfl (lv_at hl 4 rfl) ?_
                                refine lv_iadd hx hb dX5_write_157 ?_
                                refine lv_lload hx hb dX5_write_158 (lv_at hl 0 rfl) ?_
                                obtain ⟨b9, k9, g1, g2, g3, g4, -⟩ := inSign hd hz hq_6 c_25 c_58 c_69
                                refine m_st3 F hK hw (in40v g1 g2 g3 g4) dX5_write_160 (fun H locs hw => ?_)
                                refine lv_iconst (v := 0) hx hb dX5_write_161 (by decide) ?_
                                exact ct_iret hx hb hr (vp_nar_int _) hlocks hK hw dX5_write_162 (Nat.le_of_ble_eq_true rfl) (Nat.le_of_ble_eq_true rfl) (Or.inr (Or.inr (Or.inr (Or.inr (Or.inr ⟨hq_6, c_25, (fun _ => ⟨c_38, c_43⟩), ⟨c_58, c_69⟩, (fun h => absurd h hq_127), rfl, by rw [ev9]⟩)))))
                              · exact absurd rfl c_130
                          · skip
                            refine lv_lconst (v := 0) hx hb dX5_write_103 (by decide) ?_
                            refine lv_goto (tgt := 122) hx hb dX5_write_104 (by decide) ?_
                            refine lv_topl (fun v9 ev9 => ?_)
                            have ev9 : v9 = mSgn (sc (cl (d (cl p0)))) p2 v0 := ev9.trans (by unfold mSgn; rw [if_pos hq_78, if_pos c_100])
                            refine lv_lstore (lv' := [(7, .long _), (6, .int _), (0, .ref _), (1, .int _), (2, .int _), (3, .int _), (4, .long _)]) hx hb dX5_write_122 hl (by decide) rfl (fun ls hl => ?_)
                            refine lv_aload_n hx hb dX5_write_124 rfl (lv_at hl 2 rfl) ?_
                            refine lv_iload hx hb dX5_write_125 (lv_at hl 1 rfl) ?_
                            refine (c_m_isPictures l G Y x ad _ _ _ _ _ _ _ _ _ _ _ _ (hd.pos hq_6 c_25)).callV F (cwV 1 hts gX5_write_X5_isPictures rfl rfl rfl (by decide +kernel) ⟨Nat.le_of_ble_eq_true rfl, Nat.le_of_ble_eq_true rfl⟩) hK hw hA (m_recv hK hw) rfl rfl hl.1 (Nat.le_of_ble_eq_true rfl) dX5_write_127 ⟨Nat.le_of_ble_eq_true rfl, Nat.le_of_ble_eq_true rfl⟩ (fun r_127 u_127 H locs hp_127 hw => ?_)
                            obtain ⟨rfl, ⟨hq_127, rfl⟩ | ⟨hq_127, rfl⟩⟩ := hp_127
                            · skip
                              refine lv_if_eq (tgt := 147) hx hb dX5_write_130 (by decide) (fun c_130 => ?_) (fun c_130 => ?_)
                              · exact absurd c_130 (by decide)
                              · skip
                                refine lv_aload_n hx hb dX5_write_133 rfl (lv_at hl 2 rfl) ?_
                                refine lv_iload hx hb dX5_write_134 (lv_at hl 1 rfl) ?_
                                refine lv_lload hx hb dX5_write_136 (lv_at hl 0 rfl) ?_
                                refine (c_m_may l G Y x ad _ _ _ _ _ _ _ _ _ _ _ _ _ (hd.pos hq_6 c_25)).callV F (cwV 2 hts gX5_write_X5_may rfl rfl rfl (by decide +kernel) ⟨Nat.le_of_ble_eq_true rfl, Nat.le_of_ble_eq_true rfl⟩) hK hw hA (m_recv hK hw) rfl rfl hl.1 (Nat.le_of_ble_eq_true rfl) dX5_write_138 ⟨Nat.le_of_ble_eq_true rfl, Nat.le_of_ble_eq_true rfl⟩ (fun r_138 u_138 H locs hp_138 hw => ?_)
                                obtain ⟨rfl, ⟨hq_138, rfl⟩ | ⟨hq_138, rfl⟩⟩ := hp_138
                                · skip
                                  refine lv_if_ne (tgt := 147) hx hb dX5_write_141 (by decide) (fun c_141 => ?_) (fun c_141 => ?_)
                                  · skip
                                    refine lv_aload_n hx hb dX5_write_147 rfl (lv_at hl 2 rfl) ?_
                                    refine m_get3 F hi hl19 hK hw dX5_write_148 ?_
                                    refine lv_bipush (v := 40) hx hb dX5_write_151 (by decide) ?_
                                    refine lv_iload hx hb dX5_write_153 (lv_at hl 1 rfl) ?_
                                    refine lv_imul hx hb dX5_write_155 ?_
                                    refine lv_iload_n hx hb dX5_write_156 rfl (lv_at hl 4 rfl) ?_
                                    refine lv_iadd hx hb dX5_write_157 ?_
                                    refine lv_lload hx hb dX5_write_158 (lv_at hl 0 rfl) ?_
                                    obtain ⟨b9, k9, g1, g2, g3, g4, -⟩ := inSign hd hz hq_6 c_25 c_58 c_69
                                    refine m_st3 F hK hw (in40v g1 g2 g3 g4) dX5_write_160 (fun H locs hw => ?_)
                                    refine lv_iconst (v := 0) hx hb dX5_write_161 (by decide) ?_
                                    exact ct_iret hx hb hr (vp_nar_int _) hlocks hK hw dX5_write_162 (Nat.le_of_ble_eq_true rfl) (Nat.le_of_ble_eq_true rfl) (Or.inr (Or.inr (Or.inr (Or.inr (Or.inr ⟨hq_6, c_25, (fun _ => ⟨c_38, c_43⟩), ⟨c_58, c_69⟩, (fun _ => by rw [← ev9]; exact hq_138), rfl, by rw [ev9]⟩)))))
                                  · exact absurd c_141 (by decide)
                                · skip
                                  refine lv_if_ne (tgt := 147) hx hb dX5_write_141 (by decide) (fun c_141 => ?_) (fun c_141 => ?_)
                                  · exact absurd rfl c_141
                                  · skip
                                    refine lv_bipush (v := -10) hx hb dX5_write_144 (by decide) ?_
                                    exact ct_iret hx hb hr (vp_nar_int _) hlocks hK hw dX5_write_146 (Nat.le_of_ble_eq_true rfl) (Nat.le_of_ble_eq_true rfl) (Or.inr (Or.inr (Or.inr (Or.inr (Or.inl ⟨hq_6, c_25, (fun _ => ⟨c_38, c_43⟩), ⟨c_58, c_69⟩, ⟨hq_127, by rw [← ev9]; exact hq_138⟩, rfl, rfl⟩)))))
                            · skip
                              refine lv_if_eq (tgt := 147) hx hb dX5_write_130 (by decide) (fun c_130 => ?_) (fun c_130 => ?_)
                              · skip
                                refine lv_aload_n hx hb dX5_write_147 rfl (lv_at hl 2 rfl) ?_
                                refine m_get3 F hi hl19 hK hw dX5_write_148 ?_
                                refine lv_bipush (v := 40) hx hb dX5_write_151 (by decide) ?_
                                refine lv_iload hx hb dX5_write_153 (lv_at hl 1 rfl) ?_
                                refine lv_imul hx hb dX5_write_155 ?_
                                refine lv_iload_n hx hb dX5_write_156 rfl (lv_at hl 4 rfl) ?_
                                refine lv_iadd hx hb dX5_write_157 ?_
                                refine lv_lload hx hb dX5_write_158 (lv_at hl 0 rfl) ?_
                                obtain ⟨b9, k9, g1, g2, g3, g4, -⟩ := inSign hd hz hq_6 c_25 c_58 c_69
                                refine m_st3 F hK hw (in40v g1 g2 g3 g4) dX5_write_160 (fun H locs hw => ?_)
                                refine lv_iconst (v := 0) hx hb dX5_write_161 (by decide) ?_
                                exact ct_iret hx hb hr (vp_nar_int _) hlocks hK hw dX5_write_162 (Nat.le_of_ble_eq_true rfl) (Nat.le_of_ble_eq_true rfl) (Or.inr (Or.inr (Or.inr (Or.inr (Or.inr ⟨hq_6, c_25, (fun _ => ⟨c_38, c_43⟩), ⟨c_58, c_69⟩, (fun h => absurd h hq_127), rfl, by rw [ev9]⟩)))))
                              · exact absurd rfl c_130
                        · exact absurd c_81 (by decide)
                      · skip
                        refine lv_if_ne (tgt := 99) hx hb dX5_write_81 (by decide) (fun c_81 => ?_) (fun c_81 => ?_)
                        · exact absurd rfl c_81
                        · skip
                          refine lv_aload_n hx hb dX5_write_84 rfl (lv_at hl 1 rfl) ?_
                          refine m_get1 F hi hl13 hK hw dX5_write_85 ?_
                          refine lv_iload hx hb dX5_write_88 (lv_at hl 0 rfl) ?_
                          refine m_ld1 F hK hw (hd.pos hq_6 c_25).in dX5_write_90 ?_
                          refine lv_lload hx hb dX5_write_91 (lv_at hl 5 rfl) ?_
                          refine (c_m_cut l G Y x ad _ _ _ _ _ _ _ _ _ _ _ _ _ (hk0 hq_6 c_25 hq_78)).callS F (va_cwS 2 hts gX5_write_X5_cut rfl rfl rfl (by decide +kernel) ⟨Nat.le_of_ble_eq_true rfl, Nat.le_of_ble_eq_true rfl⟩) hK hw hA rfl rfl hl.1 (Nat.le_of_ble_eq_true rfl) dX5_write_93 ⟨Nat.le_of_ble_eq_true rfl, Nat.le_of_ble_eq_true rfl⟩ (fun r_93 u_93 H locs hp_93 hw => ?_)
                          obtain ⟨rfl, rfl⟩ := hp_93
                          refine lv_goto (tgt := 122) hx hb dX5_write_96 (by decide) ?_
                          refine lv_topl (fun v9 ev9 => ?_)
                          have ev9 : v9 = mSgn (sc (cl (d (cl p0)))) p2 v0 := ev9.trans (by unfold mSgn; rw [if_neg hq_78])
                          refine lv_lstore (lv' := [(7, .long _), (6, .int _), (0, .ref _), (1, .int _), (2, .int _), (3, .int _), (4, .long _)]) hx hb dX5_write_122 hl (by decide) rfl (fun ls hl => ?_)
                          refine lv_aload_n hx hb dX5_write_124 rfl (lv_at hl 2 rfl) ?_
                          refine lv_iload hx hb dX5_write_125 (lv_at hl 1 rfl) ?_
                          refine (c_m_isPictures l G Y x ad _ _ _ _ _ _ _ _ _ _ _ _ (hd.pos hq_6 c_25)).callV F (cwV 1 hts gX5_write_X5_isPictures rfl rfl rfl (by decide +kernel) ⟨Nat.le_of_ble_eq_true rfl, Nat.le_of_ble_eq_true rfl⟩) hK hw hA (m_recv hK hw) rfl rfl hl.1 (Nat.le_of_ble_eq_true rfl) dX5_write_127 ⟨Nat.le_of_ble_eq_true rfl, Nat.le_of_ble_eq_true rfl⟩ (fun r_127 u_127 H locs hp_127 hw => ?_)
                          obtain ⟨rfl, ⟨hq_127, rfl⟩ | ⟨hq_127, rfl⟩⟩ := hp_127
                          · skip
                            refine lv_if_eq (tgt := 147) hx hb dX5_write_130 (by decide) (fun c_130 => ?_) (fun c_130 => ?_)
                            · exact absurd c_130 (by decide)
                            · skip
                              refine lv_aload_n hx hb dX5_write_133 rfl (lv_at hl 2 rfl) ?_
                              refine lv_iload hx hb dX5_write_134 (lv_at hl 1 rfl) ?_
                              refine lv_lload hx hb dX5_write_136 (lv_at hl 0 rfl) ?_
                              refine (c_m_may l G Y x ad _ _ _ _ _ _ _ _ _ _ _ _ _ (hd.pos hq_6 c_25)).callV F (cwV 2 hts gX5_write_X5_may rfl rfl rfl (by decide +kernel) ⟨Nat.le_of_ble_eq_true rfl, Nat.le_of_ble_eq_true rfl⟩) hK hw hA (m_recv hK hw) rfl rfl hl.1 (Nat.le_of_ble_eq_true rfl) dX5_write_138 ⟨Nat.le_of_ble_eq_true rfl, Nat.le_of_ble_eq_true rfl⟩ (fun r_138 u_138 H locs hp_138 hw => ?_)
                              obtain ⟨rfl, ⟨hq_138, rfl⟩ | ⟨hq_138, rfl⟩⟩ := hp_138
                              · skip
                                refine lv_if_ne (tgt := 147) hx hb dX5_write_141 (by decide) (fun c_141 => ?_) (fun c_141 => ?_)
                                · skip
                                  refine lv_aload_n hx hb dX5_write_147 rfl (lv_at hl 2 rfl) ?_
                                  refine m_get3 F hi hl19 hK hw dX5_write_148 ?_
                                  refine lv_bipush (v := 40) hx hb dX5_write_151 (by decide) ?_
                                  refine lv_iload hx hb dX5_write_153 (lv_at hl 1 rfl) ?_
                                  refine lv_imul hx hb dX5_write_155 ?_
                                  refine lv_iload_n hx hb dX5_write_156 rfl (lv_at hl 4 rfl) ?_
                                  refine lv_iadd hx hb dX5_write_157 ?_
                                  refine lv_lload hx hb dX5_write_158 (lv_at hl 0 rfl) ?_
                                  obtain ⟨b9, k9, g1, g2, g3, g4, -⟩ := inSign hd hz hq_6 c_25 c_58 c_69
                                  refine m_st3 F hK hw (in40v g1 g2 g3 g4) dX5_write_160 (fun H locs hw => ?_)
                                  refine lv_iconst (v := 0) hx hb dX5_write_161 (by decide) ?_
                                  exact ct_iret hx hb hr (vp_nar_int _) hlocks hK hw dX5_write_162 (Nat.le_of_ble_eq_true rfl) (Nat.le_of_ble_eq_true rfl) (Or.inr (Or.inr (Or.inr (Or.inr (Or.inr ⟨hq_6, c_25, (fun _ => ⟨c_38, c_43⟩), ⟨c_58, c_69⟩, (fun _ => by rw [← ev9]; exact hq_138), rfl, by rw [ev9]⟩)))))
                                · exact absurd c_141 (by decide)
                              · skip
                                refine lv_if_ne (tgt := 147) hx hb dX5_write_141 (by decide) (fun c_141 => ?_) (fun c_141 => ?_)
                                · exact absurd rfl c_141
                                · skip
                                  refine lv_bipush (v := -10) hx hb dX5_write_144 (by decide) ?_
                                  exact ct_iret hx hb hr (vp_nar_int _) hlocks hK hw dX5_write_146 (Nat.le_of_ble_eq_true rfl) (Nat.le_of_ble_eq_true rfl) (Or.inr (Or.inr (Or.inr (Or.inr (Or.inl ⟨hq_6, c_25, (fun _ => ⟨c_38, c_43⟩), ⟨c_58, c_69⟩, ⟨hq_127, by rw [← ev9]; exact hq_138⟩, rfl, rfl⟩)))))
                          · skip
                            refine lv_if_eq (tgt := 147) hx hb dX5_write_130 (by decide) (fun c_130 => ?_) (fun c_130 => ?_)
                            · skip
                              refine lv_aload_n hx hb dX5_write_147 rfl (lv_at hl 2 rfl) ?_
                              refine m_get3 F hi hl19 hK hw dX5_write_148 ?_
                              refine lv_bipush (v := 40) hx hb dX5_write_151 (by decide) ?_
                              refine lv_iload hx hb dX5_write_153 (lv_at hl 1 rfl) ?_
                              refine lv_imul hx hb dX5_write_155 ?_
                              refine lv_iload_n hx hb dX5_write_156 rfl (lv_at hl 4 rfl) ?_
                              refine lv_iadd hx hb dX5_write_157 ?_
                              refine lv_lload hx hb dX5_write_158 (lv_at hl 0 rfl) ?_
                              obtain ⟨b9, k9, g1, g2, g3, g4, -⟩ := inSign hd hz hq_6 c_25 c_58 c_69
                              refine m_st3 F hK hw (in40v g1 g2 g3 g4) dX5_write_160 (fun H locs hw => ?_)
                              refine lv_iconst (v := 0) hx hb dX5_write_161 (by decide) ?_
                              exact ct_iret hx hb hr (vp_nar_int _) hlocks hK hw dX5_write_162 (Nat.le_of_ble_eq_true rfl) (Nat.le_of_ble_eq_true rfl) (Or.inr (Or.inr (Or.inr (Or.inr (Or.inr ⟨hq_6, c_25, (fun _ => ⟨c_38, c_43⟩), ⟨c_58, c_69⟩, (fun h => absurd h hq_127), rfl, by rw [ev9]⟩)))))
                            · exact absurd rfl c_130
                    · skip
                      refine lv_bipush (v := -3) hx hb dX5_write_72 (by decide) ?_
                      exact ct_iret hx hb hr (vp_nar_int _) hlocks hK hw dX5_write_74 (Nat.le_of_ble_eq_true rfl) (Nat.le_of_ble_eq_true rfl) (Or.inr (Or.inr (Or.inr (Or.inl ⟨hq_6, c_25, (fun _ => ⟨c_38, c_43⟩), fun h => c_69 h.2, rfl, rfl⟩))))
                · exact absurd (Int32.not_lt.mp c_25) c_51
              · skip
                refine lv_bipush (v := -99) hx hb dX5_write_46 (by decide) ?_
                exact ct_iret hx hb hr (vp_nar_int _) hlocks hK hw dX5_write_48 (Nat.le_of_ble_eq_true rfl) (Nat.le_of_ble_eq_true rfl) (Or.inr (Or.inl ⟨hq_6, ⟨c_25, hq_31, fun h => c_43 h.2⟩, rfl, rfl⟩))
        · skip
          refine lv_if_eq (tgt := 49) hx hb dX5_write_34 (by decide) (fun c_34 => ?_) (fun c_34 => ?_)
          · skip
            refine lv_iload hx hb dX5_write_49 (lv_at hl 0 rfl) ?_
            refine lv_if_ge (tgt := 57) hx hb dX5_write_51 (by decide) (fun c_51 => ?_) (fun c_51 => ?_)
            · skip
              refine lv_iload_n hx hb dX5_write_57 rfl (lv_at hl 3 rfl) ?_
              refine lv_if_lt (tgt := 72) hx hb dX5_write_58 (by decide) (fun c_58 => ?_) (fun c_58 => ?_)
              · skip
                refine lv_bipush (v := -3) hx hb dX5_write_72 (by decide) ?_
                exact ct_iret hx hb hr (vp_nar_int _) hlocks hK hw dX5_write_74 (Nat.le_of_ble_eq_true rfl) (Nat.le_of_ble_eq_true rfl) (Or.inr (Or.inr (Or.inr (Or.inl ⟨hq_6, c_25, (fun h9 => absurd h9 hq_31), fun h => h.1 c_58, rfl, rfl⟩))))
              · skip
                refine lv_iload_n hx hb dX5_write_61 rfl (lv_at hl 3 rfl) ?_
                refine lv_aload_n hx hb dX5_write_62 rfl (lv_at hl 1 rfl) ?_
                refine m_get2 F hi hl16 hK hw dX5_write_63 ?_
                refine lv_iload hx hb dX5_write_66 (lv_at hl 0 rfl) ?_
                refine m_ld2 F hK hw (hd.pos hq_6 c_25).in dX5_write_68 ?_
                refine lv_icmp_lt (tgt := 75) hx hb dX5_write_69 (by decide) (fun c_69 => ?_) (fun c_69 => ?_)
                · skip
                  refine lv_aload_n hx hb dX5_write_75 rfl (lv_at hl 1 rfl) ?_
                  refine lv_iload hx hb dX5_write_76 (lv_at hl 0 rfl) ?_
                  refine (c_m_isPictures l G Y x ad _ _ _ _ _ _ _ _ _ _ _ _ (hd.pos hq_6 c_25)).callV F (cwV 1 hts gX5_write_X5_isPictures rfl rfl rfl (by decide +kernel) ⟨Nat.le_of_ble_eq_true rfl, Nat.le_of_ble_eq_true rfl⟩) hK hw hA (m_recv hK hw) rfl rfl hl.1 (Nat.le_of_ble_eq_true rfl) dX5_write_78 ⟨Nat.le_of_ble_eq_true rfl, Nat.le_of_ble_eq_true rfl⟩ (fun r_78 u_78 H locs hp_78 hw => ?_)
                  obtain ⟨rfl, ⟨hq_78, rfl⟩ | ⟨hq_78, rfl⟩⟩ := hp_78
                  · skip
                    refine lv_if_ne (tgt := 99) hx hb dX5_write_81 (by decide) (fun c_81 => ?_) (fun c_81 => ?_)
                    · skip
                      refine lv_iload_n hx hb dX5_write_99 rfl (lv_at hl 4 rfl) ?_
                      refine lv_if_ne (tgt := 107) hx hb dX5_write_100 (by decide) (fun c_100 => ?_) (fun c_100 => ?_)
                      · skip
                        refine lv_ldc2 hx hb hown (hts (.constantLong RX5 64 (4)) (by decide +kernel)) dX5_write_107 ?_
                        refine lv_lload hx hb dX5_write_110 (lv_at hl 5 rfl) ?_
                        refine lv_bipush (v := 32) hx hb dX5_write_112 (by decide) ?_
                        refine lv_lshl hx hb dX5_write_114 rfl ?_
                        refine lv_bipush (v := 32) hx hb dX5_write_115 (by decide) ?_
                        refine lv_lshr hx hb dX5_write_117 rfl ?_
                        refine lv_lmul hx hb dX5_write_118 ?_
                        refine lv_iload_n hx hb dX5_write_119 rfl (lv_at hl 4 rfl) ?_
                        refine lv_i2l hx hb dX5_write_120 rfl ?_
                        refine lv_ladd hx hb dX5_write_121 ?_
                        refine lv_topl (fun v9 ev9 => ?_)
                        have ev9 : v9 = mSgn (sc (cl (d (cl p0)))) p2 v0 := ev9.trans (by unfold mSgn; rw [if_pos hq_78, if_neg c_100]; rfl)
                        refine lv_lstore (lv' := [(7, .long _), (6, .int _), (0, .ref _), (1, .int _), (2, .int _), (3, .int _), (4, .long _)]) hx hb dX5_write_122 hl (by decide) rfl (fun ls hl => ?_)
                        refine lv_aload_n hx hb dX5_write_124 rfl (lv_at hl 2 rfl) ?_
                        refine lv_iload hx hb dX5_write_125 (lv_at hl 1 rfl) ?_
                        refine (c_m_isPictures l G Y x ad _ _ _ _ _ _ _ _ _ _ _ _ (hd.pos hq_6 c_25)).callV F (cwV 1 hts gX5_write_X5_isPictures rfl rfl rfl (by decide +kernel) ⟨Nat.le_of_ble_eq_true rfl, Nat.le_of_ble_eq_true rfl⟩) hK hw hA (m_recv hK hw) rfl rfl hl.1 (Nat.le_of_ble_eq_true rfl) dX5_write_127 ⟨Nat.le_of_ble_eq_true rfl, Nat.le_of_ble_eq_true rfl⟩ (fun r_127 u_127 H locs hp_127 hw => ?_)
                        obtain ⟨rfl, ⟨hq_127, rfl⟩ | ⟨hq_127, rfl⟩⟩ := hp_127
                        · skip
                          refine lv_if_eq (tgt := 147) hx hb dX5_write_130 (by decide) (fun c_130 => ?_) (fun c_130 => ?_)
                          · exact absurd c_130 (by decide)
                          · skip
                            refine lv_aload_n hx hb dX5_write_133 rfl (lv_at hl 2 rfl) ?_
                            refine lv_iload hx hb dX5_write_134 (lv_at hl 1 rfl) ?_
                            refine lv_lload hx hb dX5_write_136 (lv_at hl 0 rfl) ?_
                            refine (c_m_may l G Y x ad _ _ _ _ _ _ _ _ _ _ _ _ _ (hd.pos hq_6 c_25)).callV F (cwV 2 hts gX5_write_X5_may rfl rfl rfl (by decide +kernel) ⟨Nat.le_of_ble_eq_true rfl, Nat.le_of_ble_eq_true rfl⟩) hK hw hA (m_recv hK hw) rfl rfl hl.1 (Nat.le_of_ble_eq_true rfl) dX5_write_138 ⟨Nat.le_of_ble_eq_true rfl, Nat.le_of_ble_eq_true rfl⟩ (fun r_138 u_138 H locs hp_138 hw => ?_)
                            obtain ⟨rfl, ⟨hq_138, rfl⟩ | ⟨hq_138, rfl⟩⟩ := hp_138
                            · skip
                              refine lv_if_ne (tgt := 147) hx hb dX5_write_141 (by decide) (fun c_141 => ?_) (fun c_141 => ?_)
                              · skip
                                refine lv_aload_n hx hb dX5_write_147 rfl (lv_at hl 2 rfl) ?_
                                refine m_get3 F hi hl19 hK hw dX5_write_148 ?_
                                refine lv_bipush (v := 40) hx hb dX5_write_151 (by decide) ?_
                                refine lv_iload hx hb dX5_write_153 (lv_at hl 1 rfl) ?_
                                refine lv_imul hx hb dX5_write_155 ?_
                                refine lv_iload_n hx hb dX5_write_156 rfl (lv_at hl 4 rfl) ?_
                                refine lv_iadd hx hb dX5_write_157 ?_
                                refine lv_lload hx hb dX5_write_158 (lv_at hl 0 rfl) ?_
                                obtain ⟨b9, k9, g1, g2, g3, g4, -⟩ := inSign hd hz hq_6 c_25 c_58 c_69
                                refine m_st3 F hK hw (in40v g1 g2 g3 g4) dX5_write_160 (fun H locs hw => ?_)
                                refine lv_iconst (v := 0) hx hb dX5_write_161 (by decide) ?_
                                exact ct_iret hx hb hr (vp_nar_int _) hlocks hK hw dX5_write_162 (Nat.le_of_ble_eq_true rfl) (Nat.le_of_ble_eq_true rfl) (Or.inr (Or.inr (Or.inr (Or.inr (Or.inr ⟨hq_6, c_25, (fun h9 => absurd h9 hq_31), ⟨c_58, c_69⟩, (fun _ => by rw [← ev9]; exact hq_138), rfl, by rw [ev9]⟩)))))
                              · exact absurd c_141 (by decide)
                            · skip
                              refine lv_if_ne (tgt := 147) hx hb dX5_write_141 (by decide) (fun c_141 => ?_) (fun c_141 => ?_)
                              · exact absurd rfl c_141
                              · skip
                                refine lv_bipush (v := -10) hx hb dX5_write_144 (by decide) ?_
                                exact ct_iret hx hb hr (vp_nar_int _) hlocks hK hw dX5_write_146 (Nat.le_of_ble_eq_true rfl) (Nat.le_of_ble_eq_true rfl) (Or.inr (Or.inr (Or.inr (Or.inr (Or.inl ⟨hq_6, c_25, (fun h9 => absurd h9 hq_31), ⟨c_58, c_69⟩, ⟨hq_127, by rw [← ev9]; exact hq_138⟩, rfl, rfl⟩)))))
                        · skip
                          refine lv_if_eq (tgt := 147) hx hb dX5_write_130 (by decide) (fun c_130 => ?_) (fun c_130 => ?_)
                          · skip
                            refine lv_aload_n hx hb dX5_write_147 rfl (lv_at hl 2 rfl) ?_
                            refine m_get3 F hi hl19 hK hw dX5_write_148 ?_
                            refine lv_bipush (v := 40) hx hb dX5_write_151 (by decide) ?_
                            refine lv_iload hx hb dX5_write_153 (lv_at hl 1 rfl) ?_
                            refine lv_imul hx hb dX5_write_155 ?_
                            refine lv_iload_n hx hb dX5_write_156 rfl (lv_at hl 4 rfl) ?_
                            refine lv_iadd hx hb dX5_write_157 ?_
                            refine lv_lload hx hb dX5_write_158 (lv_at hl 0 rfl) ?_
                            obtain ⟨b9, k9, g1, g2, g3, g4, -⟩ := inSign hd hz hq_6 c_25 c_58 c_69
                            refine m_st3 F hK hw (in40v g1 g2 g3 g4) dX5_write_160 (fun H locs hw => ?_)
                            refine lv_iconst (v := 0) hx hb dX5_write_161 (by decide) ?_
                            exact ct_iret hx hb hr (vp_nar_int _) hlocks hK hw dX5_write_162 (Nat.le_of_ble_eq_true rfl) (Nat.le_of_ble_eq_true rfl) (Or.inr (Or.inr (Or.inr (Or.inr (Or.inr ⟨hq_6, c_25, (fun h9 => absurd h9 hq_31), ⟨c_58, c_69⟩, (fun h => absurd h hq_127), rfl, by rw [ev9]⟩)))))
                          · exact absurd rfl c_130
                      · skip
                        refine lv_lconst (v := 0) hx hb dX5_write_103 (by decide) ?_
                        refine lv_goto (tgt := 122) hx hb dX5_write_104 (by decide) ?_
                        refine lv_topl (fun v9 ev9 => ?_)
                        have ev9 : v9 = mSgn (sc (cl (d (cl p0)))) p2 v0 := ev9.trans (by unfold mSgn; rw [if_pos hq_78, if_pos c_100])
                        refine lv_lstore (lv' := [(7, .long _), (6, .int _), (0, .ref _), (1, .int _), (2, .int _), (3, .int _), (4, .long _)]) hx hb dX5_write_122 hl (by decide) rfl (fun ls hl => ?_)
                        refine lv_aload_n hx hb dX5_write_124 rfl (lv_at hl 2 rfl) ?_
                        refine lv_iload hx hb dX5_write_125 (lv_at hl 1 rfl) ?_
                        refine (c_m_isPictures l G Y x ad _ _ _ _ _ _ _ _ _ _ _ _ (hd.pos hq_6 c_25)).callV F (cwV 1 hts gX5_write_X5_isPictures rfl rfl rfl (by decide +kernel) ⟨Nat.le_of_ble_eq_true rfl, Nat.le_of_ble_eq_true rfl⟩) hK hw hA (m_recv hK hw) rfl rfl hl.1 (Nat.le_of_ble_eq_true rfl) dX5_write_127 ⟨Nat.le_of_ble_eq_true rfl, Nat.le_of_ble_eq_true rfl⟩ (fun r_127 u_127 H locs hp_127 hw => ?_)
                        obtain ⟨rfl, ⟨hq_127, rfl⟩ | ⟨hq_127, rfl⟩⟩ := hp_127
                        · skip
                          refine lv_if_eq (tgt := 147) hx hb dX5_write_130 (by decide) (fun c_130 => ?_) (fun c_130 => ?_)
                          · exact absurd c_130 (by decide)
                          · skip
                            refine lv_aload_n hx hb dX5_write_133 rfl (lv_at hl 2 rfl) ?_
                            refine lv_iload hx hb dX5_write_134 (lv_at hl 1 rfl) ?_
                            refine lv_lload hx hb dX5_write_136 (lv_at hl 0 rfl) ?_
                            refine (c_m_may l G Y x ad _ _ _ _ _ _ _ _ _ _ _ _ _ (hd.pos hq_6 c_25)).callV F (cwV 2 hts gX5_write_X5_may rfl rfl rfl (by decide +kernel) ⟨Nat.le_of_ble_eq_true rfl, Nat.le_of_ble_eq_true rfl⟩) hK hw hA (m_recv hK hw) rfl rfl hl.1 (Nat.le_of_ble_eq_true rfl) dX5_write_138 ⟨Nat.le_of_ble_eq_true rfl, Nat.le_of_ble_eq_true rfl⟩ (fun r_138 u_138 H locs hp_138 hw => ?_)
                            obtain ⟨rfl, ⟨hq_138, rfl⟩ | ⟨hq_138, rfl⟩⟩ := hp_138
                            · skip
                              refine lv_if_ne (tgt := 147) hx hb dX5_write_141 (by decide) (fun c_141 => ?_) (fun c_141 => ?_)
                              · skip
                                refine lv_aload_n hx hb dX5_write_147 rfl (lv_at hl 2 rfl) ?_
                                refine m_get3 F hi hl19 hK hw dX5_write_148 ?_
                                refine lv_bipush (v := 40) hx hb dX5_write_151 (by decide) ?_
                                refine lv_iload hx hb dX5_write_153 (lv_at hl 1 rfl) ?_
                                refine lv_imul hx hb dX5_write_155 ?_
                                refine lv_iload_n hx hb dX5_write_156 rfl (lv_at hl 4 rfl) ?_
                                refine lv_iadd hx hb dX5_write_157 ?_
                                refine lv_lload hx hb dX5_write_158 (lv_at hl 0 rfl) ?_
                                obtain ⟨b9, k9, g1, g2, g3, g4, -⟩ := inSign hd hz hq_6 c_25 c_58 c_69
                                refine m_st3 F hK hw (in40v g1 g2 g3 g4) dX5_write_160 (fun H locs hw => ?_)
                                refine lv_iconst (v := 0) hx hb dX5_write_161 (by decide) ?_
                                exact ct_iret hx hb hr (vp_nar_int _) hlocks hK hw dX5_write_162 (Nat.le_of_ble_eq_true rfl) (Nat.le_of_ble_eq_true rfl) (Or.inr (Or.inr (Or.inr (Or.inr (Or.inr ⟨hq_6, c_25, (fun h9 => absurd h9 hq_31), ⟨c_58, c_69⟩, (fun _ => by rw [← ev9]; exact hq_138), rfl, by rw [ev9]⟩)))))
                              · exact absurd c_141 (by decide)
                            · skip
                              refine lv_if_ne (tgt := 147) hx hb dX5_write_141 (by decide) (fun c_141 => ?_) (fun c_141 => ?_)
                              · exact absurd rfl c_141
                              · skip
                                refine lv_bipush (v := -10) hx hb dX5_write_144 (by decide) ?_
                                exact ct_iret hx hb hr (vp_nar_int _) hlocks hK hw dX5_write_146 (Nat.le_of_ble_eq_true rfl) (Nat.le_of_ble_eq_true rfl) (Or.inr (Or.inr (Or.inr (Or.inr (Or.inl ⟨hq_6, c_25, (fun h9 => absurd h9 hq_31), ⟨c_58, c_69⟩, ⟨hq_127, by rw [← ev9]; exact hq_138⟩, rfl, rfl⟩)))))
                        · skip
                          refine lv_if_eq (tgt := 147) hx hb dX5_write_130 (by decide) (fun c_130 => ?_) (fun c_130 => ?_)
                          · skip
                            refine lv_aload_n hx hb dX5_write_147 rfl (lv_at hl 2 rfl) ?_
                            refine m_get3 F hi hl19 hK hw dX5_write_148 ?_
                            refine lv_bipush (v := 40) hx hb dX5_write_151 (by decide) ?_
                            refine lv_iload hx hb dX5_write_153 (lv_at hl 1 rfl) ?_
                            refine lv_imul hx hb dX5_write_155 ?_
                            refine lv_iload_n hx hb dX5_write_156 rfl (lv_at hl 4 rfl) ?_
                            refine lv_iadd hx hb dX5_write_157 ?_
                            refine lv_lload hx hb dX5_write_158 (lv_at hl 0 rfl) ?_
                            obtain ⟨b9, k9, g1, g2, g3, g4, -⟩ := inSign hd hz hq_6 c_25 c_58 c_69
                            refine m_st3 F hK hw (in40v g1 g2 g3 g4) dX5_write_160 (fun H locs hw => ?_)
                            refine lv_iconst (v := 0) hx hb dX5_write_161 (by decide) ?_
                            exact ct_iret hx hb hr (vp_nar_int _) hlocks hK hw dX5_write_162 (Nat.le_of_ble_eq_true rfl) (Nat.le_of_ble_eq_true rfl) (Or.inr (Or.inr (Or.inr (Or.inr (Or.inr ⟨hq_6, c_25, (fun h9 => absurd h9 hq_31), ⟨c_58, c_69⟩, (fun h => absurd h hq_127), rfl, by rw [ev9]⟩)))))
                          · exact absurd rfl c_130
                    · exact absurd c_81 (by decide)
                  · skip
                    refine lv_if_ne (tgt := 99) hx hb dX5_write_81 (by decide) (fun c_81 => ?_) (fun c_81 => ?_)
                    · exact absurd rfl c_81
                    · skip
                      refine lv_aload_n hx hb dX5_write_84 rfl (lv_at hl 1 rfl) ?_
                      refine m_get1 F hi hl13 hK hw dX5_write_85 ?_
                      refine lv_iload hx hb dX5_write_88 (lv_at hl 0 rfl) ?_
                      refine m_ld1 F hK hw (hd.pos hq_6 c_25).in dX5_write_90 ?_
                      refine lv_lload hx hb dX5_write_91 (lv_at hl 5 rfl) ?_
                      refine (c_m_cut l G Y x ad _ _ _ _ _ _ _ _ _ _ _ _ _ (hk0 hq_6 c_25 hq_78)).callS F (va_cwS 2 hts gX5_write_X5_cut rfl rfl rfl (by decide +kernel) ⟨Nat.le_of_ble_eq_true rfl, Nat.le_of_ble_eq_true rfl⟩) hK hw hA rfl rfl hl.1 (Nat.le_of_ble_eq_true rfl) dX5_write_93 ⟨Nat.le_of_ble_eq_true rfl, Nat.le_of_ble_eq_true rfl⟩ (fun r_93 u_93 H locs hp_93 hw => ?_)
                      obtain ⟨rfl, rfl⟩ := hp_93
                      refine lv_goto (tgt := 122) hx hb dX5_write_96 (by decide) ?_
                      refine lv_topl (fun v9 ev9 => ?_)
                      have ev9 : v9 = mSgn (sc (cl (d (cl p0)))) p2 v0 := ev9.trans (by unfold mSgn; rw [if_neg hq_78])
                      refine lv_lstore (lv' := [(7, .long _), (6, .int _), (0, .ref _), (1, .int _), (2, .int _), (3, .int _), (4, .long _)]) hx hb dX5_write_122 hl (by decide) rfl (fun ls hl => ?_)
                      refine lv_aload_n hx hb dX5_write_124 rfl (lv_at hl 2 rfl) ?_
                      refine lv_iload hx hb dX5_write_125 (lv_at hl 1 rfl) ?_
                      refine (c_m_isPictures l G Y x ad _ _ _ _ _ _ _ _ _ _ _ _ (hd.pos hq_6 c_25)).callV F (cwV 1 hts gX5_write_X5_isPictures rfl rfl rfl (by decide +kernel) ⟨Nat.le_of_ble_eq_true rfl, Nat.le_of_ble_eq_true rfl⟩) hK hw hA (m_recv hK hw) rfl rfl hl.1 (Nat.le_of_ble_eq_true rfl) dX5_write_127 ⟨Nat.le_of_ble_eq_true rfl, Nat.le_of_ble_eq_true rfl⟩ (fun r_127 u_127 H locs hp_127 hw => ?_)
                      obtain ⟨rfl, ⟨hq_127, rfl⟩ | ⟨hq_127, rfl⟩⟩ := hp_127
                      · skip
                        refine lv_if_eq (tgt := 147) hx hb dX5_write_130 (by decide) (fun c_130 => ?_) (fun c_130 => ?_)
                        · exact absurd c_130 (by decide)
                        · skip
                          refine lv_aload_n hx hb dX5_write_133 rfl (lv_at hl 2 rfl) ?_
                          refine lv_iload hx hb dX5_write_134 (lv_at hl 1 rfl) ?_
                          refine lv_lload hx hb dX5_write_136 (lv_at hl 0 rfl) ?_
                          refine (c_m_may l G Y x ad _ _ _ _ _ _ _ _ _ _ _ _ _ (hd.pos hq_6 c_25)).callV F (cwV 2 hts gX5_write_X5_may rfl rfl rfl (by decide +kernel) ⟨Nat.le_of_ble_eq_true rfl, Nat.le_of_ble_eq_true rfl⟩) hK hw hA (m_recv hK hw) rfl rfl hl.1 (Nat.le_of_ble_eq_true rfl) dX5_write_138 ⟨Nat.le_of_ble_eq_true rfl, Nat.le_of_ble_eq_true rfl⟩ (fun r_138 u_138 H locs hp_138 hw => ?_)
                          obtain ⟨rfl, ⟨hq_138, rfl⟩ | ⟨hq_138, rfl⟩⟩ := hp_138
                          · skip
                            refine lv_if_ne (tgt := 147) hx hb dX5_write_141 (by decide) (fun c_141 => ?_) (fun c_141 => ?_)
                            · skip
                              refine lv_aload_n hx hb dX5_write_147 rfl (lv_at hl 2 rfl) ?_
                              refine m_get3 F hi hl19 hK hw dX5_write_148 ?_
                              refine lv_bipush (v := 40) hx hb dX5_write_151 (by decide) ?_
                              refine lv_iload hx hb dX5_write_153 (lv_at hl 1 rfl) ?_
                              refine lv_imul hx hb dX5_write_155 ?_
                              refine lv_iload_n hx hb dX5_write_156 rfl (lv_at hl 4 rfl) ?_
                              refine lv_iadd hx hb dX5_write_157 ?_
                              refine lv_lload hx hb dX5_write_158 (lv_at hl 0 rfl) ?_
                              obtain ⟨b9, k9, g1, g2, g3, g4, -⟩ := inSign hd hz hq_6 c_25 c_58 c_69
                              refine m_st3 F hK hw (in40v g1 g2 g3 g4) dX5_write_160 (fun H locs hw => ?_)
                              refine lv_iconst (v := 0) hx hb dX5_write_161 (by decide) ?_
                              exact ct_iret hx hb hr (vp_nar_int _) hlocks hK hw dX5_write_162 (Nat.le_of_ble_eq_true rfl) (Nat.le_of_ble_eq_true rfl) (Or.inr (Or.inr (Or.inr (Or.inr (Or.inr ⟨hq_6, c_25, (fun h9 => absurd h9 hq_31), ⟨c_58, c_69⟩, (fun _ => by rw [← ev9]; exact hq_138), rfl, by rw [ev9]⟩)))))
                            · exact absurd c_141 (by decide)
                          · skip
                            refine lv_if_ne (tgt := 147) hx hb dX5_write_141 (by decide) (fun c_141 => ?_) (fun c_141 => ?_)
                            · exact absurd rfl c_141
                            · skip
                              refine lv_bipush (v := -10) hx hb dX5_write_144 (by decide) ?_
                              exact ct_iret hx hb hr (vp_nar_int _) hlocks hK hw dX5_write_146 (Nat.le_of_ble_eq_true rfl) (Nat.le_of_ble_eq_true rfl) (Or.inr (Or.inr (Or.inr (Or.inr (Or.inl ⟨hq_6, c_25, (fun h9 => absurd h9 hq_31), ⟨c_58, c_69⟩, ⟨hq_127, by rw [← ev9]; exact hq_138⟩, rfl, rfl⟩)))))
                      · skip
                        refine lv_if_eq (tgt := 147) hx hb dX5_write_130 (by decide) (fun c_130 => ?_) (fun c_130 => ?_)
                        · skip
                          refine lv_aload_n hx hb dX5_write_147 rfl (lv_at hl 2 rfl) ?_
                          refine m_get3 F hi hl19 hK hw dX5_write_148 ?_
                          refine lv_bipush (v := 40) hx hb dX5_write_151 (by decide) ?_
                          refine lv_iload hx hb dX5_write_153 (lv_at hl 1 rfl) ?_
                          refine lv_imul hx hb dX5_write_155 ?_
                          refine lv_iload_n hx hb dX5_write_156 rfl (lv_at hl 4 rfl) ?_
                          refine lv_iadd hx hb dX5_write_157 ?_
                          refine lv_lload hx hb dX5_write_158 (lv_at hl 0 rfl) ?_
                          obtain ⟨b9, k9, g1, g2, g3, g4, -⟩ := inSign hd hz hq_6 c_25 c_58 c_69
                          refine m_st3 F hK hw (in40v g1 g2 g3 g4) dX5_write_160 (fun H locs hw => ?_)
                          refine lv_iconst (v := 0) hx hb dX5_write_161 (by decide) ?_
                          exact ct_iret hx hb hr (vp_nar_int _) hlocks hK hw dX5_write_162 (Nat.le_of_ble_eq_true rfl) (Nat.le_of_ble_eq_true rfl) (Or.inr (Or.inr (Or.inr (Or.inr (Or.inr ⟨hq_6, c_25, (fun h9 => absurd h9 hq_31), ⟨c_58, c_69⟩, (fun h => absurd h hq_127), rfl, by rw [ev9]⟩)))))
                        · exact absurd rfl c_130
                · skip
                  refine lv_bipush (v := -3) hx hb dX5_write_72 (by decide) ?_
                  exact ct_iret hx hb hr (vp_nar_int _) hlocks hK hw dX5_write_74 (Nat.le_of_ble_eq_true rfl) (Nat.le_of_ble_eq_true rfl) (Or.inr (Or.inr (Or.inr (Or.inl ⟨hq_6, c_25, (fun h9 => absurd h9 hq_31), fun h => c_69 h.2, rfl, rfl⟩))))
            · exact absurd (Int32.not_lt.mp c_25) c_51
          · exact absurd rfl c_34
    · exact absurd c_9 (by decide)
  · skip
    refine lv_if_ne (tgt := 15) hx hb dX5_write_9 (by decide) (fun c_9 => ?_) (fun c_9 => ?_)
    · exact absurd rfl c_9
    · skip
      refine lv_bipush (v := -99) hx hb dX5_write_12 (by decide) ?_
      exact ct_iret hx hb hr (vp_nar_int _) hlocks hK hw dX5_write_14 (Nat.le_of_ble_eq_true rfl) (Nat.le_of_ble_eq_true rfl) (Or.inl ⟨hq_6, rfl, rfl⟩)
