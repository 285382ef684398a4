set_option maxHeartbeats 4000000 in
set_option maxRecDepth 100000 in
theorem c_X4_lay (l : Launch) (G : va_G) (Y : Nat → ClassId) (h : PH) (ad dk : Nat → Nat) (BK : List Nat) (bS : Nat → Int32) (bN : Nat → Nat) (bV : Nat → Nat → Int64) (bT : Nat → Nat → Int32) (vA sA : Nat → Nat) (ink cop : Nat → Int32) (wai : Nat → Nat) (O : Nat → Nat → Ord) (nx he : Nat) (C : Nat → Nat → Int32) (tl : Nat → Int32) (p0 : Int32) (b : Nat) (hC : CRep Y h ad (dk, (BK, bS, bN, bV, bT, vA, sA), (ink, cop, wai, O), (nx, he, C), tl)) (hb9 : b ∈ BK) : ctI l G Y pw yX4_lay wsX4_lay ({ frames := 1, cells := 0, slots := 0, locals := 30 }) [.ref (ad 0), .int p0, .ref b] h (fun r h' => (isD p0 ∧ r = 0 ∧ CRep Y h' ad (va_up dk (cl p0) b, (BK, bS, bN, bV, bT, vA, sA), (ink, cop, wai, O), (nx, he, C), tl)) ∨ (¬ isD p0 ∧ r = -99 ∧ h' = h)) := by
  refine ctI.of (cc := cX4_lay) (maxL := 3) (ret := (some .int)) (by decide +kernel) rfl (Nat.le_of_ble_eq_true rfl) ?_
  intro A p e s m below meth c ls hB
  obtain ⟨F, hr, hlocks, hnm, hK, hA, hw, hl⟩ := hB
  obtain ⟨hx, hb, hml, hown, hts⟩ := id F
  have hl : lv_has ls 3 [(0, .ref (ad 0)), (1, .int p0), (2, .ref b)] := hl
  have hi4 : ∀ w ∈ wsX40, w ∈ wsX4_lay := by decide +kernel
  have hl21 : Cond.fieldLink RX4 21 "Scriptorium" "desks" "[LScriptorium$Book;" ∈ wsX4_lay := by decide +kernel
  obtain ⟨f_x, ⟨fd, f_d, hfd⟩, hbk, hnn, ⟨⟨fS, f_ss, hfS⟩, hsc⟩, ⟨f_h, hch, hnx, hhe⟩, f_t⟩ := id hC
  have f_x : pAt h (ad 0) (oX (ad 1) (ad 2) (ad 3) (ad 4) (ad 5) (ad 6)) := f_x
  have f_t : pAt h (ad 6) (aI Y 8 tl) := f_t
  have f_b := (hbk b hb9).1
  refine lv_iload_n hx hb dX4_lay_0 rfl (lv_at hl 1 rfl) ?_
  refine (c_X4_isDesk l G Y pw _ _).callS F (va_cwS 1 hts gX4_lay_X4_isDesk rfl rfl rfl (by decide +kernel) ⟨Nat.le_of_ble_eq_true rfl, Nat.le_of_ble_eq_true rfl⟩) hK hw hA rfl rfl hl.1 (Nat.le_of_ble_eq_true rfl) dX4_lay_1 ⟨Nat.le_of_ble_eq_true rfl, Nat.le_of_ble_eq_true rfl⟩ (fun r_1 h_1 H locs hp_1 hw => ?_)
  obtain ⟨eh_1, hp_1⟩ := hp_1
  rw [eh_1] at hw
  rcases hp_1 with ⟨hq_1, rfl⟩ | ⟨hq_1, rfl⟩
  · skip
    refine lv_if_ne (tgt := 10) hx hb dX4_lay_4 (by decide) (fun c_4 => ?_) (fun c_4 => ?_)
    · skip
      refine lv_aload_n hx hb dX4_lay_10 rfl (lv_at hl 0 rfl) ?_
      refine p_get (ci := 4) (C := RX4) (T := TX4) (N := 6) 2 F rfl hi4 hl21 (by decide) hK hw f_x rfl dX4_lay_11 ?_
      refine lv_iload_n hx hb dX4_lay_14 rfl (lv_at hl 1 rfl) ?_
      refine lv_aload_n hx hb dX4_lay_15 rfl (lv_at hl 2 rfl) ?_
      have f_d_0 := f_d
      refine q_stB F hK hw f_d f_b hq_1.in dX4_lay_16 (fun h_16 H locs f_d fr_16 hw => ?_)
      refine lv_iconst (v := 0) hx hb dX4_lay_17 (by decide) ?_
      exact ct_iret hx hb hr (vp_nar_int _) hlocks hK hw dX4_lay_18 (Nat.le_of_ble_eq_true rfl) (Nat.le_of_ble_eq_true rfl) (Or.inl ⟨hq_1, rfl, hC.desk hb9 fr_16 f_d_0 (fun j hj => (hfd j hj).1) f_d⟩)
    · exact absurd c_4 (by decide)
  · skip
    refine lv_if_ne (tgt := 10) hx hb dX4_lay_4 (by decide) (fun c_4 => ?_) (fun c_4 => ?_)
    · exact absurd rfl c_4
    · skip
      refine lv_bipush (v := -99) hx hb dX4_lay_7 (by decide) ?_
      exact ct_iret hx hb hr (vp_nar_int _) hlocks hK hw dX4_lay_9 (Nat.le_of_ble_eq_true rfl) (Nat.le_of_ble_eq_true rfl) (Or.inr ⟨hq_1, rfl, rfl⟩)

set_option maxHeartbeats 4000000 in
set_option maxRecDepth 100000 in
theorem c_X4_stone (l : Launch) (G : va_G) (Y : Nat → ClassId) (h : PH) (ad dk : Nat → Nat) (BK : List Nat) (bS : Nat → Int32) (bN : Nat → Nat) (bV : Nat → Nat → Int64) (bT : Nat → Nat → Int32) (vA sA : Nat → Nat) (ink cop : Nat → Int32) (wai : Nat → Nat) (O : Nat → Nat → Ord) (nx he : Nat) (C : Nat → Nat → Int32) (tl : Nat → Int32) (p0 : Int32) (hC : CRep Y h ad (dk, (BK, bS, bN, bV, bT, vA, sA), (ink, cop, wai, O), (nx, he, C), tl)) : ctI l G Y pw yX4_stone wsX4_stone ({ frames := 2, cells := 0, slots := 0, locals := 60 }) [.ref (ad 0), .int p0] h (fun r h' => (isD p0 ∧ r = 0 ∧ CRep Y h' ad (va_up dk (cl p0) (ad 2), (BK, bS, bN, bV, bT, vA, sA), (ink, cop, wai, O), (nx, he, C), tl)) ∨ (¬ isD p0 ∧ r = -99 ∧ h' = h)) := by
  refine ctI.of (cc := cX4_stone) (maxL := 2) (ret := (some .int)) (by decide +kernel) rfl (Nat.le_of_ble_eq_true rfl) ?_
  intro A p e s m below meth c ls hB
  obtain ⟨F, hr, hlocks, hnm, hK, hA, hw, hl⟩ := hB
  obtain ⟨hx, hb, hml, hown, hts⟩ := id F
  have hl : lv_has ls 2 [(0, .ref (ad 0)), (1, .int p0)] := hl
  have hi4 : ∀ w ∈ wsX40, w ∈ wsX4_stone := by decide +kernel
  have hl18 : Cond.fieldLink RX4 18 "Scriptorium" "rock" "LScriptorium$Book;" ∈ wsX4_stone := by decide +kernel
  obtain ⟨f_x, ⟨fd, f_d, hfd⟩, hbk, hnn, ⟨⟨fS, f_ss, hfS⟩, hsc⟩, ⟨f_h, hch, hnx, hhe⟩, f_t⟩ := id hC
  have f_x : pAt h (ad 0) (oX (ad 1) (ad 2) (ad 3) (ad 4) (ad 5) (ad 6)) := f_x
  have f_t : pAt h (ad 6) (aI Y 8 tl) := f_t
  refine lv_aload_n hx hb dX4_stone_0 rfl (lv_at hl 0 rfl) ?_
  refine lv_iload_n hx hb dX4_stone_1 rfl (lv_at hl 1 rfl) ?_
  refine lv_aload_n hx hb dX4_stone_2 rfl (lv_at hl 0 rfl) ?_
  refine p_get (ci := 4) (C := RX4) (T := TX4) (N := 6) 1 F rfl hi4 hl18 (by decide) hK hw f_x rfl dX4_stone_3 ?_
  refine (c_X4_lay l G Y _ _ _ _ _ _ _ _ _ _ _ _ _ _ _ _ _ _ _ (ad 2) hC hnn.2.2.2.2.2.2.2.2).callV F (cwV 2 hts gX4_stone_X4_lay rfl rfl rfl (by decide +kernel) ⟨Nat.le_of_ble_eq_true rfl, Nat.le_of_ble_eq_true rfl⟩) hK hw hA (p_recv hK hw f_x rfl) rfl rfl hl.1 (Nat.le_of_ble_eq_true rfl) dX4_stone_6 ⟨Nat.le_of_ble_eq_true rfl, Nat.le_of_ble_eq_true rfl⟩ (fun r_6 h_6 H locs hp_6 hw => ?_)
  exact ct_iret hx hb hr (vp_nar_int _) hlocks hK hw dX4_stone_9 (Nat.le_of_ble_eq_true rfl) (Nat.le_of_ble_eq_true rfl) hp_6

set_option maxHeartbeats 4000000 in
set_option maxRecDepth 100000 in
theorem c_X4_clear (l : Launch) (G : va_G) (Y : Nat → ClassId) (h : PH) (ad dk : Nat → Nat) (BK : List Nat) (bS : Nat → Int32) (bN : Nat → Nat) (bV : Nat → Nat → Int64) (bT : Nat → Nat → Int32) (vA sA : Nat → Nat) (ink cop : Nat → Int32) (wai : Nat → Nat) (O : Nat → Nat → Ord) (nx he : Nat) (C : Nat → Nat → Int32) (tl : Nat → Int32) (p0 : Int32) (hC : CRep Y h ad (dk, (BK, bS, bN, bV, bT, vA, sA), (ink, cop, wai, O), (nx, he, C), tl)) : ctI l G Y pw yX4_clear wsX4_clear ({ frames := 2, cells := 0, slots := 0, locals := 60 }) [.ref (ad 0), .int p0] h (fun r h' => (isD p0 ∧ r = 0 ∧ CRep Y h' ad (va_up dk (cl p0) (ad 1), (BK, bS, bN, bV, bT, vA, sA), (ink, cop, wai, O), (nx, he, C), tl)) ∨ (¬ isD p0 ∧ r = -99 ∧ h' = h)) := by
  refine ctI.of (cc := cX4_clear) (maxL := 2) (ret := (some .int)) (by decide +kernel) rfl (Nat.le_of_ble_eq_true rfl) ?_
  intro A p e s m below meth c ls hB
  obtain ⟨F, hr, hlocks, hnm, hK, hA, hw, hl⟩ := hB
  obtain ⟨hx, hb, hml, hown, hts⟩ := id F
  have hl : lv_has ls 2 [(0, .ref (ad 0)), (1, .int p0)] := hl
  have hi4 : ∀ w ∈ wsX40, w ∈ wsX4_clear := by decide +kernel
  have hl14 : Cond.fieldLink RX4 14 "Scriptorium" "nothing" "LScriptorium$Book;" ∈ wsX4_clear := by decide +kernel
  obtain ⟨f_x, ⟨fd, f_d, hfd⟩, hbk, hnn, ⟨⟨fS, f_ss, hfS⟩, hsc⟩, ⟨f_h, hch, hnx, hhe⟩, f_t⟩ := id hC
  have f_x : pAt h (ad 0) (oX (ad 1) (ad 2) (ad 3) (ad 4) (ad 5) (ad 6)) := f_x
  have f_t : pAt h (ad 6) (aI Y 8 tl) := f_t
  refine lv_aload_n hx hb dX4_clear_0 rfl (lv_at hl 0 rfl) ?_
  refine lv_iload_n hx hb dX4_clear_1 rfl (lv_at hl 1 rfl) ?_
  refine lv_aload_n hx hb dX4_clear_2 rfl (lv_at hl 0 rfl) ?_
  refine p_get (ci := 4) (C := RX4) (T := TX4) (N := 6) 0 F rfl hi4 hl14 (by decide) hK hw f_x rfl dX4_clear_3 ?_
  refine (c_X4_lay l G Y _ _ _ _ _ _ _ _ _ _ _ _ _ _ _ _ _ _ _ (ad 1) hC hnn.2.2.2.2.2.2.2.1).callV F (cwV 2 hts gX4_clear_X4_lay rfl rfl rfl (by decide +kernel) ⟨Nat.le_of_ble_eq_true rfl, Nat.le_of_ble_eq_true rfl⟩) hK hw hA (p_recv hK hw f_x rfl) rfl rfl hl.1 (Nat.le_of_ble_eq_true rfl) dX4_clear_6 ⟨Nat.le_of_ble_eq_true rfl, Nat.le_of_ble_eq_true rfl⟩ (fun r_6 h_6 H locs hp_6 hw => ?_)
  exact ct_iret hx hb hr (vp_nar_int _) hlocks hK hw dX4_clear_9 (Nat.le_of_ble_eq_true rfl) (Nat.le_of_ble_eq_true rfl) hp_6

set_option maxHeartbeats 4000000 in
set_option maxRecDepth 100000 in
theorem c_X4_share (l : Launch) (G : va_G) (Y : Nat → ClassId) (h : PH) (ad dk : Nat → Nat) (BK : List Nat) (bS : Nat → Int32) (bN : Nat → Nat) (bV : Nat → Nat → Int64) (bT : Nat → Nat → Int32) (vA sA : Nat → Nat) (ink cop : Nat → Int32) (wai : Nat → Nat) (O : Nat → Nat → Ord) (nx he : Nat) (C : Nat → Nat → Int32) (tl : Nat → Int32) (p0 p1 : Int32) (hC : CRep Y h ad (dk, (BK, bS, bN, bV, bT, vA, sA), (ink, cop, wai, O), (nx, he, C), tl)) : ctI l G Y pw yX4_share wsX4_share ({ frames := 2, cells := 0, slots := 0, locals := 60 }) [.ref (ad 0), .int p0, .int p1] h (fun r h' => (isD p0 ∧ isD p1 ∧ r = 0 ∧ CRep Y h' ad (va_up dk (cl p1) (dk (cl p0)), (BK, bS, bN, bV, bT, vA, sA), (ink, cop, wai, O), (nx, he, C), tl)) ∨ (¬ (isD p0 ∧ isD p1) ∧ r = -99 ∧ h' = h)) := by
  refine ctI.of (cc := cX4_share) (maxL := 3) (ret := (some .int)) (by decide +kernel) rfl (Nat.le_of_ble_eq_true rfl) ?_
  intro A p e s m below meth c ls hB
  obtain ⟨F, hr, hlocks, hnm, hK, hA, hw, hl⟩ := hB
  obtain ⟨hx, hb, hml, hown, hts⟩ := id F
  have hl : lv_has ls 3 [(0, .ref (ad 0)), (1, .int p0), (2, .int p1)] := hl
  have hi4 : ∀ w ∈ wsX40, w ∈ wsX4_share := by decide +kernel
  have hl21 : Cond.fieldLink RX4 21 "Scriptorium" "desks" "[LScriptorium$Book;" ∈ wsX4_share := by decide +kernel
  obtain ⟨f_x, ⟨fd, f_d, hfd⟩, hbk, hnn, ⟨⟨fS, f_ss, hfS⟩, hsc⟩, ⟨f_h, hch, hnx, hhe⟩, f_t⟩ := id hC
  have f_x : pAt h (ad 0) (oX (ad 1) (ad 2) (ad 3) (ad 4) (ad 5) (ad 6)) := f_x
  have f_t : pAt h (ad 6) (aI Y 8 tl) := f_t
  refine lv_iload_n hx hb dX4_share_0 rfl (lv_at hl 1 rfl) ?_
  refine (c_X4_isDesk l G Y pw _ _).callS F (va_cwS 1 hts gX4_share_X4_isDesk rfl rfl rfl (by decide +kernel) ⟨Nat.le_of_ble_eq_true rfl, Nat.le_of_ble_eq_true rfl⟩) hK hw hA rfl rfl hl.1 (Nat.le_of_ble_eq_true rfl) dX4_share_1 ⟨Nat.le_of_ble_eq_true rfl, Nat.le_of_ble_eq_true rfl⟩ (fun r_1 h_1 H locs hp_1 hw => ?_)
  obtain ⟨eh_1, hp_1⟩ := hp_1
  rw [eh_1] at hw
  rcases hp_1 with ⟨hq_1, rfl⟩ | ⟨hq_1, rfl⟩
  · skip
    refine lv_if_eq (tgt := 21) hx hb dX4_share_4 (by decide) (fun c_4 => ?_) (fun c_4 => ?_)
    · exact absurd c_4 (by decide)
    · skip
      refine lv_aload_n hx hb dX4_share_7 rfl (lv_at hl 0 rfl) ?_
      refine lv_iload_n hx hb dX4_share_8 rfl (lv_at hl 2 rfl) ?_
      refine lv_aload_n hx hb dX4_share_9 rfl (lv_at hl 0 rfl) ?_
      refine p_get (ci := 4) (C := RX4) (T := TX4) (N := 6) 2 F rfl hi4 hl21 (by decide) hK hw f_x rfl dX4_share_10 ?_
      refine lv_iload_n hx hb dX4_share_13 rfl (lv_at hl 1 rfl) ?_
      refine p_ldB F hK hw f_d hq_1.in (hfd _ hq_1.lt).1 dX4_share_14 ?_
      refine (c_X4_lay l G Y _ _ _ _ _ _ _ _ _ _ _ _ _ _ _ _ _ _ _ _ hC (hfd _ hq_1.lt).2).callV F (cwV 2 hts gX4_share_X4_lay rfl rfl rfl (by decide +kernel) ⟨Nat.le_of_ble_eq_true rfl, Nat.le_of_ble_eq_true rfl⟩) hK hw hA (p_recv hK hw f_x rfl) rfl rfl hl.1 (Nat.le_of_ble_eq_true rfl) dX4_share_15 ⟨Nat.le_of_ble_eq_true rfl, Nat.le_of_ble_eq_true rfl⟩ (fun r_15 h_15 H locs hp_15 hw => ?_)
      refine lv_goto (tgt := 23) hx hb dX4_share_18 (by decide) ?_
      exact ct_iret hx hb hr (vp_nar_int _) hlocks hK hw dX4_share_23 (Nat.le_of_ble_eq_true rfl) (Nat.le_of_ble_eq_true rfl) (hp_15.elim (fun q => Or.inl ⟨hq_1, q.1, q.2.1, q.2.2⟩) (fun q => Or.inr ⟨fun z => q.1 z.2, q.2.1, q.2.2⟩))
  · skip
    refine lv_if_eq (tgt := 21) hx hb dX4_share_4 (by decide) (fun c_4 => ?_) (fun c_4 => ?_)
    · skip
      refine lv_bipush (v := -99) hx hb dX4_share_21 (by decide) ?_
      exact ct_iret hx hb hr (vp_nar_int _) hlocks hK hw dX4_share_23 (Nat.le_of_ble_eq_true rfl) (Nat.le_of_ble_eq_true rfl) (Or.inr ⟨fun q => hq_1 q.1, rfl, rfl⟩)
    · exact absurd rfl c_4

set_option maxHeartbeats 4000000 in
set_option maxRecDepth 100000 in
theorem c_X4_count (l : Launch) (G : va_G) (Y : Nat → ClassId) (h : PH) (ad dk : Nat → Nat) (BK : List Nat) (bS : Nat → Int32) (bN : Nat → Nat) (bV : Nat → Nat → Int64) (bT : Nat → Nat → Int32) (vA sA : Nat → Nat) (ink cop : Nat → Int32) (wai : Nat → Nat) (O : Nat → Nat → Ord) (nx he : Nat) (C : Nat → Nat → Int32) (tl : Nat → Int32) (p0 : Int32) (hC : CRep Y h ad (dk, (BK, bS, bN, bV, bT, vA, sA), (ink, cop, wai, O), (nx, he, C), tl)) : ctI l G Y pw yX4_count wsX4_count ({ frames := 0, cells := 0, slots := 0, locals := 0 }) [.ref (ad 0), .int p0] h (fun r h' => h' = h ∧ (((¬ p0 < 0 ∧ ¬ 8 ≤ p0) ∧ r = tl (cl p0)) ∨ (¬ (¬ p0 < 0 ∧ ¬ 8 ≤ p0) ∧ r = -99))) := by
  refine ctI.of (cc := cX4_count) (maxL := 2) (ret := (some .int)) (by decide +kernel) rfl (Nat.le_of_ble_eq_true rfl) ?_
  intro A p e s m below meth c ls hB
  obtain ⟨F, hr, hlocks, hnm, hK, hA, hw, hl⟩ := hB
  obtain ⟨hx, hb, hml, hown, hts⟩ := id F
  have hl : lv_has ls 2 [(0, .ref (ad 0)), (1, .int p0)] := hl
  have hi4 : ∀ w ∈ wsX40, w ∈ wsX4_count := by decide +kernel
  have hl39 : Cond.fieldLink RX4 39 "Scriptorium" "tallies" "[I" ∈ wsX4_count := by decide +kernel
  obtain ⟨f_x, ⟨fd, f_d, hfd⟩, hbk, hnn, ⟨⟨fS, f_ss, hfS⟩, hsc⟩, ⟨f_h, hch, hnx, hhe⟩, f_t⟩ := id hC
  have f_x : pAt h (ad 0) (oX (ad 1) (ad 2) (ad 3) (ad 4) (ad 5) (ad 6)) := f_x
  have f_t : pAt h (ad 6) (aI Y 8 tl) := f_t
  refine lv_iload_n hx hb dX4_count_0 rfl (lv_at hl 1 rfl) ?_
  refine lv_if_lt (tgt := 19) hx hb dX4_count_1 (by decide) (fun c_1 => ?_) (fun c_1 => ?_)
  · skip
    refine lv_bipush (v := -99) hx hb dX4_count_19 (by decide) ?_
    exact ct_iret hx hb hr (vp_nar_int _) hlocks hK hw dX4_count_21 (Nat.le_of_ble_eq_true rfl) (Nat.le_of_ble_eq_true rfl) ⟨rfl, Or.inr ⟨fun q => q.1 c_1, rfl⟩⟩
  · skip
    refine lv_iload_n hx hb dX4_count_4 rfl (lv_at hl 1 rfl) ?_
    refine lv_bipush (v := 8) hx hb dX4_count_5 (by decide) ?_
    refine lv_icmp_ge (tgt := 19) hx hb dX4_count_7 (by decide) (fun c_7 => ?_) (fun c_7 => ?_)
    · skip
      refine lv_bipush (v := -99) hx hb dX4_count_19 (by decide) ?_
      exact ct_iret hx hb hr (vp_nar_int _) hlocks hK hw dX4_count_21 (Nat.le_of_ble_eq_true rfl) (Nat.le_of_ble_eq_true rfl) ⟨rfl, Or.inr ⟨fun q => q.2 c_7, rfl⟩⟩
    · skip
      refine lv_aload_n hx hb dX4_count_10 rfl (lv_at hl 0 rfl) ?_
      refine p_get (ci := 4) (C := RX4) (T := TX4) (N := 6) 5 F rfl hi4 hl39 (by decide) hK hw f_x rfl dX4_count_11 ?_
      refine lv_iload_n hx hb dX4_count_14 rfl (lv_at hl 1 rfl) ?_
      refine p_ildI F hK hw f_t (in_of (N := 8) rfl c_1 c_7) dX4_count_15 ?_
      refine lv_goto (tgt := 21) hx hb dX4_count_16 (by decide) ?_
      exact ct_iret hx hb hr (vp_nar_int _) hlocks hK hw dX4_count_21 (Nat.le_of_ble_eq_true rfl) (Nat.le_of_ble_eq_true rfl) ⟨rfl, Or.inl ⟨⟨c_1, c_7⟩, rfl⟩⟩

set_option maxHeartbeats 4000000 in
set_option maxRecDepth 100000 in
theorem c_X4_book (l : Launch) (G : va_G) (Y : Nat → ClassId) (h : PH) (ad dk : Nat → Nat) (BK : List Nat) (bS : Nat → Int32) (bN : Nat → Nat) (bV : Nat → Nat → Int64) (bT : Nat → Nat → Int32) (vA sA : Nat → Nat) (ink cop : Nat → Int32) (wai : Nat → Nat) (O : Nat → Nat → Ord) (nx he : Nat) (C : Nat → Nat → Int32) (tl : Nat → Int32) (p0 p1 : Int32) (hC : CRep Y h ad (dk, (BK, bS, bN, bV, bT, vA, sA), (ink, cop, wai, O), (nx, he, C), tl)) : ctI l G Y pw yX4_book wsX4_book ({ frames := 1, cells := 0, slots := 0, locals := 30 }) [.ref (ad 0), .int p0, .int p1] h (fun r h' => h' = h ∧ (((isD p0 ∧ ¬ p1 < 0 ∧ p1 ≤ 1) ∧ r = (if p1 = 0 ∨ bS (dk (cl p0)) < 0 then bS (dk (cl p0)) else nI (bN (dk (cl p0))))) ∨ (¬ (isD p0 ∧ ¬ p1 < 0 ∧ p1 ≤ 1) ∧ r = -99))) := by
  refine ctI.of (cc := cX4_book) (maxL := 4) (ret := (some .int)) (by decide +kernel) rfl (Nat.le_of_ble_eq_true rfl) ?_
  intro A p e s m below meth c ls hB
  obtain ⟨F, hr, hlocks, hnm, hK, hA, hw, hl⟩ := hB
  obtain ⟨hx, hb, hml, hown, hts⟩ := id F
  have hl : lv_has ls 4 [(0, .ref (ad 0)), (1, .int p0), (2, .int p1)] := hl
  have hi0 : ∀ w ∈ wsX00, w ∈ wsX4_book := by decide +kernel
  have hi4 : ∀ w ∈ wsX40, w ∈ wsX4_book := by decide +kernel
  have hl21 : Cond.fieldLink RX4 21 "Scriptorium" "desks" "[LScriptorium$Book;" ∈ wsX4_book := by decide +kernel
  have hl58 : Cond.fieldLink RX4 58 "Scriptorium$Book" "script" "I" ∈ wsX4_book := by decide +kernel
  obtain ⟨f_x, ⟨fd, f_d, hfd⟩, hbk, hnn, ⟨⟨fS, f_ss, hfS⟩, hsc⟩, ⟨f_h, hch, hnx, hhe⟩, f_t⟩ := id hC
  have f_x : pAt h (ad 0) (oX (ad 1) (ad 2) (ad 3) (ad 4) (ad 5) (ad 6)) := f_x
  have f_t : pAt h (ad 6) (aI Y 8 tl) := f_t
  refine lv_iload_n hx hb dX4_book_0 rfl (lv_at hl 1 rfl) ?_
  refine (c_X4_isDesk l G Y pw _ _).callS F (va_cwS 1 hts gX4_book_X4_isDesk rfl rfl rfl (by decide +kernel) ⟨Nat.le_of_ble_eq_true rfl, Nat.le_of_ble_eq_true rfl⟩) hK hw hA rfl rfl hl.1 (Nat.le_of_ble_eq_true rfl) dX4_book_1 ⟨Nat.le_of_ble_eq_true rfl, Nat.le_of_ble_eq_true rfl⟩ (fun r_1 h_1 H locs hp_1 hw => ?_)
  obtain ⟨eh_1, hp_1⟩ := hp_1
  rw [eh_1] at hw
  rcases hp_1 with ⟨hq_1, rfl⟩ | ⟨hq_1, rfl⟩
  · skip
    refine lv_if_eq (tgt := 16) hx hb dX4_book_4 (by decide) (fun c_4 => ?_) (fun c_4 => ?_)
    · exact absurd c_4 (by decide)
    · skip
      refine lv_iload_n hx hb dX4_book_7 rfl (lv_at hl 2 rfl) ?_
      refine lv_if_lt (tgt := 16) hx hb dX4_book_8 (by decide) (fun c_8 => ?_) (fun c_8 => ?_)
      · skip
        refine lv_bipush (v := -99) hx hb dX4_book_16 (by decide) ?_
        exact ct_iret hx hb hr (vp_nar_int _) hlocks hK hw dX4_book_18 (Nat.le_of_ble_eq_true rfl) (Nat.le_of_ble_eq_true rfl) ⟨rfl, Or.inr ⟨fun q => q.2.1 c_8, rfl⟩⟩
      · skip
        refine lv_iload_n hx hb dX4_book_11 rfl (lv_at hl 2 rfl) ?_
        refine lv_iconst (v := 1) hx hb dX4_book_12 (by decide) ?_
        refine lv_icmp_le (tgt := 19) hx hb dX4_book_13 (by decide) (fun c_13 => ?_) (fun c_13 => ?_)
        · skip
          refine lv_aload_n hx hb dX4_book_19 rfl (lv_at hl 0 rfl) ?_
          refine p_get (ci := 4) (C := RX4) (T := TX4) (N := 6) 2 F rfl hi4 hl21 (by decide) hK hw f_x rfl dX4_book_20 ?_
          refine lv_iload_n hx hb dX4_book_23 rfl (lv_at hl 1 rfl) ?_
          refine p_ldB F hK hw f_d hq_1.in (hfd _ hq_1.lt).1 dX4_book_24 ?_
          obtain ⟨f_b, f_bv, f_bs, hn_b⟩ := hbk _ (hfd _ hq_1.lt).2
          refine lv_astore_n (lv' := [(3, .ref _), (0, .ref _), (1, .int _), (2, .int _)]) hx hb dX4_book_25 rfl hl (by decide) rfl (fun ls hl => ?_)
          refine lv_iload_n hx hb dX4_book_26 rfl (lv_at hl 3 rfl) ?_
          refine lv_if_eq (tgt := 37) hx hb dX4_book_27 (by decide) (fun c_27 => ?_) (fun c_27 => ?_)
          · skip
            refine lv_aload_n hx hb dX4_book_37 rfl (lv_at hl 0 rfl) ?_
            refine p_get (ci := 0) (C := RX0) (T := TX0) (N := 3) 0 F rfl hi0 hl58 (by decide) hK hw f_b rfl dX4_book_38 ?_
            refine lv_goto (tgt := 48) hx hb dX4_book_41 (by decide) ?_
            exact ct_iret hx hb hr (vp_nar_int _) hlocks hK hw dX4_book_48 (Nat.le_of_ble_eq_true rfl) (Nat.le_of_ble_eq_true rfl) ⟨rfl, Or.inl ⟨⟨hq_1, c_8, c_13⟩, by rw [if_pos (Or.inl c_27)]⟩⟩
          · skip
            refine lv_aload_n hx hb dX4_book_30 rfl (lv_at hl 0 rfl) ?_
            refine (c_X0_isNoBook l G Y _ _ _ _ _ f_b).callV F (cwV 0 hts gX4_book_X0_isNoBook rfl rfl rfl (by decide +kernel) ⟨Nat.le_of_ble_eq_true rfl, Nat.le_of_ble_eq_true rfl⟩) hK hw hA (p_recv hK hw f_b rfl) rfl rfl hl.1 (Nat.le_of_ble_eq_true rfl) dX4_book_31 ⟨Nat.le_of_ble_eq_true rfl, Nat.le_of_ble_eq_true rfl⟩ (fun r_31 h_31 H locs hp_31 hw => ?_)
            obtain ⟨eh_31, hp_31⟩ := hp_31
            rw [eh_31] at hw
            rcases hp_31 with ⟨hq_31, rfl⟩ | ⟨hq_31, rfl⟩
            · skip
              refine lv_if_eq (tgt := 44) hx hb dX4_book_34 (by decide) (fun c_34 => ?_) (fun c_34 => ?_)
              · exact absurd c_34 (by decide)
              · skip
                refine lv_aload_n hx hb dX4_book_37 rfl (lv_at hl 0 rfl) ?_
                refine p_get (ci := 0) (C := RX0) (T := TX0) (N := 3) 0 F rfl hi0 hl58 (by decide) hK hw f_b rfl dX4_book_38 ?_
                refine lv_goto (tgt := 48) hx hb dX4_book_41 (by decide) ?_
                exact ct_iret hx hb hr (vp_nar_int _) hlocks hK hw dX4_book_48 (Nat.le_of_ble_eq_true rfl) (Nat.le_of_ble_eq_true rfl) ⟨rfl, Or.inl ⟨⟨hq_1, c_8, c_13⟩, by rw [if_pos (Or.inr hq_31)]⟩⟩
            · skip
              refine lv_if_eq (tgt := 44) hx hb dX4_book_34 (by decide) (fun c_34 => ?_) (fun c_34 => ?_)
              · skip
                refine lv_aload_n hx hb dX4_book_44 rfl (lv_at hl 0 rfl) ?_
                refine (c_X0_length l G Y _ _ _ _ _ _ _ (fun _ => 0) f_b f_bv).callV F (cwV 0 hts gX4_book_X0_length rfl rfl rfl (by decide +kernel) ⟨Nat.le_of_ble_eq_true rfl, Nat.le_of_ble_eq_true rfl⟩) hK hw hA (p_recv hK hw f_b rfl) rfl rfl hl.1 (Nat.le_of_ble_eq_true rfl) dX4_book_45 ⟨Nat.le_of_ble_eq_true rfl, Nat.le_of_ble_eq_true rfl⟩ (fun r_45 h_45 H locs hp_45 hw => ?_)
                obtain ⟨eh_45, rfl⟩ := hp_45
                rw [eh_45] at hw
                exact ct_iret hx hb hr (vp_nar_int _) hlocks hK hw dX4_book_48 (Nat.le_of_ble_eq_true rfl) (Nat.le_of_ble_eq_true rfl) ⟨rfl, Or.inl ⟨⟨hq_1, c_8, c_13⟩, by rw [if_neg (fun q => q.elim c_27 hq_31)]⟩⟩
              · exact absurd rfl c_34
        · skip
          refine lv_bipush (v := -99) hx hb dX4_book_16 (by decide) ?_
          exact ct_iret hx hb hr (vp_nar_int _) hlocks hK hw dX4_book_18 (Nat.le_of_ble_eq_true rfl) (Nat.le_of_ble_eq_true rfl) ⟨rfl, Or.inr ⟨fun q => c_13 q.2.2, rfl⟩⟩
  · skip
    refine lv_if_eq (tgt := 16) hx hb dX4_book_4 (by decide) (fun c_4 => ?_) (fun c_4 => ?_)
    · skip
      refine lv_bipush (v := -99) hx hb dX4_book_16 (by decide) ?_
      exact ct_iret hx hb hr (vp_nar_int _) hlocks hK hw dX4_book_18 (Nat.le_of_ble_eq_true rfl) (Nat.le_of_ble_eq_true rfl) ⟨rfl, Or.inr ⟨fun q => hq_1 q.1, rfl⟩⟩
    · exact absurd rfl c_4

set_option maxHeartbeats 4000000 in
set_option maxRecDepth 100000 in
theorem c_X4_differ (l : Launch) (G : va_G) (Y : Nat → ClassId) (h : PH) (ad dk : Nat → Nat) (BK : List Nat) (bS : Nat → Int32) (bN : Nat → Nat) (bV : Nat → Nat → Int64) (bT : Nat → Nat → Int32) (vA sA : Nat → Nat) (ink cop : Nat → Int32) (wai : Nat → Nat) (O : Nat → Nat → Ord) (nx he : Nat) (C : Nat → Nat → Int32) (tl : Nat → Int32) (p0 p1 : Int32) (hC : CRep Y h ad (dk, (BK, bS, bN, bV, bT, vA, sA), (ink, cop, wai, O), (nx, he, C), tl)) : ctI l G Y pw yX4_differ wsX4_differ ({ frames := 3, cells := 0, slots := 0, locals := 120 }) [.ref (ad 0), .int p0, .int p1] h (fun r h' => h' = h ∧ ((¬ (isD p0 ∧ isD p1) ∧ r = -99) ∨ ((isD p0 ∧ isD p1) ∧ ¬ cHin (bS (dk (cl p0))) (bS (dk (cl p1))) = 0 ∧ r = cHin (bS (dk (cl p0))) (bS (dk (cl p1)))) ∨ ((isD p0 ∧ isD p1) ∧ cHin (bS (dk (cl p0))) (bS (dk (cl p1))) = 0 ∧ cDiff (bN (dk (cl p0))) (bN (dk (cl p1))) (bV (dk (cl p0))) (bV (dk (cl p1))) (bT (dk (cl p0))) (bT (dk (cl p1))) r))) := by
  refine ctI.of (cc := cX4_differ) (maxL := 4) (ret := (some .int)) (by decide +kernel) rfl (Nat.le_of_ble_eq_true rfl) ?_
  intro A p e s m below meth c ls hB
  obtain ⟨F, hr, hlocks, hnm, hK, hA, hw, hl⟩ := hB
  obtain ⟨hx, hb, hml, hown, hts⟩ := id F
  have hl : lv_has ls 4 [(0, .ref (ad 0)), (1, .int p0), (2, .int p1)] := hl
  have hi4 : ∀ w ∈ wsX40, w ∈ wsX4_differ := by decide +kernel
  have hl21 : Cond.fieldLink RX4 21 "Scriptorium" "desks" "[LScriptorium$Book;" ∈ wsX4_differ := by decide +kernel
  obtain ⟨f_x, ⟨fd, f_d, hfd⟩, hbk, hnn, ⟨⟨fS, f_ss, hfS⟩, hsc⟩, ⟨f_h, hch, hnx, hhe⟩, f_t⟩ := id hC
  have f_x : pAt h (ad 0) (oX (ad 1) (ad 2) (ad 3) (ad 4) (ad 5) (ad 6)) := f_x
  have f_t : pAt h (ad 6) (aI Y 8 tl) := f_t
  refine lv_iload_n hx hb dX4_differ_0 rfl (lv_at hl 1 rfl) ?_
  refine (c_X4_isDesk l G Y pw _ _).callS F (va_cwS 1 hts gX4_differ_X4_isDesk rfl rfl rfl (by decide +kernel) ⟨Nat.le_of_ble_eq_true rfl, Nat.le_of_ble_eq_true rfl⟩) hK hw hA rfl rfl hl.1 (Nat.le_of_ble_eq_true rfl) dX4_differ_1 ⟨Nat.le_of_ble_eq_true rfl, Nat.le_of_ble_eq_true rfl⟩ (fun r_1 h_1 H locs hp_1 hw => ?_)
  obtain ⟨eh_1, hp_1⟩ := hp_1
  rw [eh_1] at hw
  rcases hp_1 with ⟨hq_1, rfl⟩ | ⟨hq_1, rfl⟩
  · skip
    refine lv_if_eq (tgt := 14) hx hb dX4_differ_4 (by decide) (fun c_4 => ?_) (fun c_4 => ?_)
    · exact absurd c_4 (by decide)
    · skip
      refine lv_iload_n hx hb dX4_differ_7 rfl (lv_at hl 2 rfl) ?_
      refine (c_X4_isDesk l G Y pw _ _).callS F (va_cwS 1 hts gX4_differ_X4_isDesk rfl rfl rfl (by decide +kernel) ⟨Nat.le_of_ble_eq_true rfl, Nat.le_of_ble_eq_true rfl⟩) hK hw hA rfl rfl hl.1 (Nat.le_of_ble_eq_true rfl) dX4_differ_8 ⟨Nat.le_of_ble_eq_true rfl, Nat.le_of_ble_eq_true rfl⟩ (fun r_8 h_8 H locs hp_8 hw => ?_)
      obtain ⟨eh_8, hp_8⟩ := hp_8
      rw [eh_8] at hw
      rcases hp_8 with ⟨hq_8, rfl⟩ | ⟨hq_8, rfl⟩
      · skip
        refine lv_if_ne (tgt := 17) hx hb dX4_differ_11 (by decide) (fun c_11 => ?_) (fun c_11 => ?_)
        · skip
          refine lv_aload_n hx hb dX4_differ_17 rfl (lv_at hl 0 rfl) ?_
          refine p_get (ci := 4) (C := RX4) (T := TX4) (N := 6) 2 F rfl hi4 hl21 (by decide) hK hw f_x rfl dX4_differ_18 ?_
          refine lv_iload_n hx hb dX4_differ_21 rfl (lv_at hl 1 rfl) ?_
          refine p_ldB F hK hw f_d hq_1.in (hfd _ hq_1.lt).1 dX4_differ_22 ?_
          refine lv_aload_n hx hb dX4_differ_23 rfl (lv_at hl 0 rfl) ?_
          refine p_get (ci := 4) (C := RX4) (T := TX4) (N := 6) 2 F rfl hi4 hl21 (by decide) hK hw f_x rfl dX4_differ_24 ?_
          refine lv_iload_n hx hb dX4_differ_27 rfl (lv_at hl 2 rfl) ?_
          refine p_ldB F hK hw f_d hq_8.in (hfd _ hq_8.lt).1 dX4_differ_28 ?_
          obtain ⟨f_o, f_ov, f_os, hn_o⟩ := hbk _ (hfd _ hq_1.lt).2
          obtain ⟨f_b, f_bv, f_bs, hn_b⟩ := hbk _ (hfd _ hq_8.lt).2
          refine (c_X4_hindranceBetween l G Y _ _ _ _ _ _ _ _ _ f_o f_b).callS F (va_cwS 2 hts gX4_differ_X4_hindranceBetween rfl rfl rfl (by decide +kernel) ⟨Nat.le_of_ble_eq_true rfl, Nat.le_of_ble_eq_true rfl⟩) hK hw hA rfl rfl hl.1 (Nat.le_of_ble_eq_true rfl) dX4_differ_29 ⟨Nat.le_of_ble_eq_true rfl, Nat.le_of_ble_eq_true rfl⟩ (fun r_29 h_29 H locs hp_29 hw => ?_)
          obtain ⟨eh_29, rfl⟩ := hp_29
          rw [eh_29] at hw
          refine lv_istore_n (lv' := [(3, .int _), (0, .ref _), (1, .int _), (2, .int _)]) hx hb dX4_differ_32 rfl hl (by decide) rfl (fun ls hl => ?_)
          refine lv_iload_n hx hb dX4_differ_33 rfl (lv_at hl 0 rfl) ?_
          refine lv_if_eq (tgt := 41) hx hb dX4_differ_34 (by decide) (fun c_34 => ?_) (fun c_34 => ?_)
          · skip
            refine lv_aload_n hx hb dX4_differ_41 rfl (lv_at hl 1 rfl) ?_
            refine p_get (ci := 4) (C := RX4) (T := TX4) (N := 6) 2 F rfl hi4 hl21 (by decide) hK hw f_x rfl dX4_differ_42 ?_
            refine lv_iload_n hx hb dX4_differ_45 rfl (lv_at hl 2 rfl) ?_
            refine p_ldB F hK hw f_d hq_1.in (hfd _ hq_1.lt).1 dX4_differ_46 ?_
            refine lv_aload_n hx hb dX4_differ_47 rfl (lv_at hl 1 rfl) ?_
            refine p_get (ci := 4) (C := RX4) (T := TX4) (N := 6) 2 F rfl hi4 hl21 (by decide) hK hw f_x rfl dX4_differ_48 ?_
            refine lv_iload_n hx hb dX4_differ_51 rfl (lv_at hl 3 rfl) ?_
            refine p_ldB F hK hw f_d hq_8.in (hfd _ hq_8.lt).1 dX4_differ_52 ?_
            refine (c_X4_firstDifference l G Y _ _ _ _ _ _ _ _ _ _ _ _ _ _ _ f_o f_ov f_os f_b f_bv f_bs hn_o hn_b).callS F (va_cwS 2 hts gX4_differ_X4_firstDifference rfl rfl rfl (by decide +kernel) ⟨Nat.le_of_ble_eq_true rfl, Nat.le_of_ble_eq_true rfl⟩) hK hw hA rfl rfl hl.1 (Nat.le_of_ble_eq_true rfl) dX4_differ_53 ⟨Nat.le_of_ble_eq_true rfl, Nat.le_of_ble_eq_true rfl⟩ (fun r_53 h_53 H locs hp_53 hw => ?_)
            obtain ⟨eh_53, hdf⟩ := hp_53
            rw [eh_53] at hw
            exact ct_iret hx hb hr (vp_nar_int _) hlocks hK hw dX4_differ_56 (Nat.le_of_ble_eq_true rfl) (Nat.le_of_ble_eq_true rfl) ⟨rfl, Or.inr (Or.inr ⟨⟨hq_1, hq_8⟩, c_34, hdf⟩)⟩
          · skip
            refine lv_iload_n hx hb dX4_differ_37 rfl (lv_at hl 0 rfl) ?_
            refine lv_goto (tgt := 56) hx hb dX4_differ_38 (by decide) ?_
            exact ct_iret hx hb hr (vp_nar_int _) hlocks hK hw dX4_differ_56 (Nat.le_of_ble_eq_true rfl) (Nat.le_of_ble_eq_true rfl) ⟨rfl, Or.inr (Or.inl ⟨⟨hq_1, hq_8⟩, c_34, rfl⟩)⟩
        · exact absurd c_11 (by decide)
      · skip
        refine lv_if_ne (tgt := 17) hx hb dX4_differ_11 (by decide) (fun c_11 => ?_) (fun c_11 => ?_)
        · exact absurd rfl c_11
        · skip
          refine lv_bipush (v := -99) hx hb dX4_differ_14 (by decide) ?_
          exact ct_iret hx hb hr (vp_nar_int _) hlocks hK hw dX4_differ_16 (Nat.le_of_ble_eq_true rfl) (Nat.le_of_ble_eq_true rfl) ⟨rfl, Or.inl ⟨fun q => hq_8 q.2, rfl⟩⟩
  · skip
    refine lv_if_eq (tgt := 14) hx hb dX4_differ_4 (by decide) (fun c_4 => ?_) (fun c_4 => ?_)
    · skip
      refine lv_bipush (v := -99) hx hb dX4_differ_14 (by decide) ?_
      exact ct_iret hx hb hr (vp_nar_int _) hlocks hK hw dX4_differ_16 (Nat.le_of_ble_eq_true rfl) (Nat.le_of_ble_eq_true rfl) ⟨rfl, Or.inl ⟨fun q => hq_1 q.1, rfl⟩⟩
    · exact absurd rfl c_4

set_option maxHeartbeats 4000000 in
set_option maxRecDepth 100000 in
theorem c_X4_chronicle (l : Launch) (G : va_G) (Y : Nat → ClassId) (h : PH) (ad dk : Nat → Nat) (BK : List Nat) (bS : Nat → Int32) (bN : Nat → Nat) (bV : Nat → Nat → Int64) (bT : Nat → Nat → Int32) (vA sA : Nat → Nat) (ink cop : Nat → Int32) (wai : Nat → Nat) (O : Nat → Nat → Ord) (nx he : Nat) (C : Nat → Nat → Int32) (tl : Nat → Int32) (p0 p1 : Int32) (hC : CRep Y h ad (dk, (BK, bS, bN, bV, bT, vA, sA), (ink, cop, wai, O), (nx, he, C), tl)) : ctI l G Y pw yX4_chronicle wsX4_chronicle ({ frames := 2, cells := 0, slots := 0, locals := 60 }) [.ref (ad 0), .int p0, .int p1] h (fun r h' => h' = h ∧ ((∃ k w : Nat, p0 = nI k ∧ p1 = nI w ∧ k < he ∧ w < 4 ∧ r = C w ((nx + 31 - k) % 16)) ∨ (¬ ((¬ p0 < 0 ∧ ¬ nI he ≤ p0) ∧ (p1 = 0 ∨ p1 = 1 ∨ p1 = 2 ∨ p1 = 3)) ∧ r = -99))) := by
  refine ctI.of (cc := cX4_chronicle) (maxL := 4) (ret := (some .int)) (by decide +kernel) rfl (Nat.le_of_ble_eq_true rfl) ?_
  intro A p e s m below meth c ls hB
  obtain ⟨F, hr, hlocks, hnm, hK, hA, hw, hl⟩ := hB
  obtain ⟨hx, hb, hml, hown, hts⟩ := id F
  have hl : lv_has ls 4 [(0, .ref (ad 0)), (1, .int p0), (2, .int p1)] := hl
  have hi1 : ∀ w ∈ wsX10, w ∈ wsX4_chronicle := by decide +kernel
  have hi4 : ∀ w ∈ wsX40, w ∈ wsX4_chronicle := by decide +kernel
  have hl35 : Cond.fieldLink RX4 35 "Scriptorium" "latest" "LScriptorium$Chronicle;" ∈ wsX4_chronicle := by decide +kernel
  have hl152 : Cond.fieldLink RX4 152 "Scriptorium$Chronicle" "scribeNumbers" "[I" ∈ wsX4_chronicle := by decide +kernel
  have hl155 : Cond.fieldLink RX4 155 "Scriptorium$Chronicle" "sources" "[I" ∈ wsX4_chronicle := by decide +kernel
  have hl158 : Cond.fieldLink RX4 158 "Scriptorium$Chronicle" "targets" "[I" ∈ wsX4_chronicle := by decide +kernel
  have hl161 : Cond.fieldLink RX4 161 "Scriptorium$Chronicle" "answers" "[I" ∈ wsX4_chronicle := by decide +kernel
  obtain ⟨f_x, ⟨fd, f_d, hfd⟩, hbk, hnn, ⟨⟨fS, f_ss, hfS⟩, hsc⟩, ⟨f_h, hch, hnx, hhe⟩, f_t⟩ := id hC
  have f_x : pAt h (ad 0) (oX (ad 1) (ad 2) (ad 3) (ad 4) (ad 5) (ad 6)) := f_x
  have f_t : pAt h (ad 6) (aI Y 8 tl) := f_t
  have f_c0 := hch 0 (by decide)
  have f_c1 := hch 1 (by decide)
  have f_c2 := hch 2 (by decide)
  have f_c3 := hch 3 (by decide)
  refine lv_aload_n hx hb dX4_chronicle_0 rfl (lv_at hl 0 rfl) ?_
  refine p_get (ci := 4) (C := RX4) (T := TX4) (N := 6) 4 F rfl hi4 hl35 (by decide) hK hw f_x rfl dX4_chronicle_1 ?_
  refine lv_iload_n hx hb dX4_chronicle_4 rfl (lv_at hl 1 rfl) ?_
  refine (c_X1_has l G Y _ _ _ _ _ _ _ _ _ f_h).callV F (cwV 1 hts gX4_chronicle_X1_has rfl rfl rfl (by decide +kernel) ⟨Nat.le_of_ble_eq_true rfl, Nat.le_of_ble_eq_true rfl⟩) hK hw hA (p_recv hK hw f_h rfl) rfl rfl hl.1 (Nat.le_of_ble_eq_true rfl) dX4_chronicle_5 ⟨Nat.le_of_ble_eq_true rfl, Nat.le_of_ble_eq_true rfl⟩ (fun r_5 h_5 H locs hp_5 hw => ?_)
  obtain ⟨eh_5, hp_5⟩ := hp_5
  rw [eh_5] at hw
  rcases hp_5 with ⟨hq_5, rfl⟩ | ⟨hq_5, rfl⟩
  · skip
    refine lv_if_ne (tgt := 14) hx hb dX4_chronicle_8 (by decide) (fun c_8 => ?_) (fun c_8 => ?_)
    · skip
      refine lv_aload_n hx hb dX4_chronicle_14 rfl (lv_at hl 0 rfl) ?_
      refine p_get (ci := 4) (C := RX4) (T := TX4) (N := 6) 4 F rfl hi4 hl35 (by decide) hK hw f_x rfl dX4_chronicle_15 ?_
      refine lv_iload_n hx hb dX4_chronicle_18 rfl (lv_at hl 1 rfl) ?_
      refine (c_X1_rowOf l G Y _ _ _ _ _ _ _ _ _ f_h).callV F (cwV 1 hts gX4_chronicle_X1_rowOf rfl rfl rfl (by decide +kernel) ⟨Nat.le_of_ble_eq_true rfl, Nat.le_of_ble_eq_true rfl⟩) hK hw hA (p_recv hK hw f_h rfl) rfl rfl hl.1 (Nat.le_of_ble_eq_true rfl) dX4_chronicle_19 ⟨Nat.le_of_ble_eq_true rfl, Nat.le_of_ble_eq_true rfl⟩ (fun r_19 h_19 H locs hp_19 hw => ?_)
      obtain ⟨eh_19, rfl⟩ := hp_19
      rw [eh_19] at hw
      obtain ⟨k9, hk9, rfl⟩ := nI_of hq_5.1
      have hk16 : k9 < he := by
        have q := hq_5.2
        rw [nI_leI (by omega) hk9] at q
        omega
      rw [jFM_16 ⟨nx, hnx⟩ ⟨k9, by omega⟩]
      dsimp only
      refine lv_istore_n (lv' := [(3, .int _), (0, .ref _), (1, .int _), (2, .int _)]) hx hb dX4_chronicle_22 rfl hl (by decide) rfl (fun ls hl => ?_)
      refine lv_iload_n hx hb dX4_chronicle_23 rfl (lv_at hl 3 rfl) ?_
      by_cases k0 : p1 = 0
      · subst k0
        refine lv_tableIn (off := 32) (tgt := 56) hx hb dX4_chronicle_24 (by decide) (by decide) (by decide) (by decide) ?_
        refine lv_aload_n hx hb dX4_chronicle_56 rfl (lv_at hl 1 rfl) ?_
        refine p_get (ci := 4) (C := RX4) (T := TX4) (N := 6) 4 F rfl hi4 hl35 (by decide) hK hw f_x rfl dX4_chronicle_57 ?_
        refine p_get (ci := 1) (C := RX1) (T := TX1) (N := 6) 0 F rfl hi1 hl152 (by decide) hK hw f_h rfl dX4_chronicle_60 ?_
        refine lv_iload_n hx hb dX4_chronicle_63 rfl (lv_at hl 0 rfl) ?_
        refine p_ildI F hK hw f_c0 (vp_in_nI (show (nx + 31 - k9) % 16 < 16 by omega) (by decide)) dX4_chronicle_64 ?_
        exact ct_iret hx hb hr (vp_nar_int _) hlocks hK hw dX4_chronicle_65 (Nat.le_of_ble_eq_true rfl) (Nat.le_of_ble_eq_true rfl) ⟨rfl, Or.inl ⟨k9, 0, rfl, rfl, hk16, by decide, by rw [cl_nI (by omega)]⟩⟩
      by_cases k1 : p1 = 1
      · subst k1
        refine lv_tableIn (off := 42) (tgt := 66) hx hb dX4_chronicle_24 (by decide) (by decide) (by decide) (by decide) ?_
        refine lv_aload_n hx hb dX4_chronicle_66 rfl (lv_at hl 1 rfl) ?_
        refine p_get (ci := 4) (C := RX4) (T := TX4) (N := 6) 4 F rfl hi4 hl35 (by decide) hK hw f_x rfl dX4_chronicle_67 ?_
        refine p_get (ci := 1) (C := RX1) (T := TX1) (N := 6) 1 F rfl hi1 hl155 (by decide) hK hw f_h rfl dX4_chronicle_70 ?_
        refine lv_iload_n hx hb dX4_chronicle_73 rfl (lv_at hl 0 rfl) ?_
        refine p_ildI F hK hw f_c1 (vp_in_nI (show (nx + 31 - k9) % 16 < 16 by omega) (by decide)) dX4_chronicle_74 ?_
        exact ct_iret hx hb hr (vp_nar_int _) hlocks hK hw dX4_chronicle_75 (Nat.le_of_ble_eq_true rfl) (Nat.le_of_ble_eq_true rfl) ⟨rfl, Or.inl ⟨k9, 1, rfl, rfl, hk16, by decide, by rw [cl_nI (by omega)]⟩⟩
      by_cases k2 : p1 = 2
      · subst k2
        refine lv_tableIn (off := 52) (tgt := 76) hx hb dX4_chronicle_24 (by decide) (by decide) (by decide) (by decide) ?_
        refine lv_aload_n hx hb dX4_chronicle_76 rfl (lv_at hl 1 rfl) ?_
        refine p_get (ci := 4) (C := RX4) (T := TX4) (N := 6) 4 F rfl hi4 hl35 (by decide) hK hw f_x rfl dX4_chronicle_77 ?_
        refine p_get (ci := 1) (C := RX1) (T := TX1) (N := 6) 2 F rfl hi1 hl158 (by decide) hK hw f_h rfl dX4_chronicle_80 ?_
        refine lv_iload_n hx hb dX4_chronicle_83 rfl (lv_at hl 0 rfl) ?_
        refine p_ildI F hK hw f_c2 (vp_in_nI (show (nx + 31 - k9) % 16 < 16 by omega) (by decide)) dX4_chronicle_84 ?_
        exact ct_iret hx hb hr (vp_nar_int _) hlocks hK hw dX4_chronicle_85 (Nat.le_of_ble_eq_true rfl) (Nat.le_of_ble_eq_true rfl) ⟨rfl, Or.inl ⟨k9, 2, rfl, rfl, hk16, by decide, by rw [cl_nI (by omega)]⟩⟩
      by_cases k3 : p1 = 3
      · subst k3
        refine lv_tableIn (off := 62) (tgt := 86) hx hb dX4_chronicle_24 (by decide) (by decide) (by decide) (by decide) ?_
        refine lv_aload_n hx hb dX4_chronicle_86 rfl (lv_at hl 1 rfl) ?_
        refine p_get (ci := 4) (C := RX4) (T := TX4) (N := 6) 4 F rfl hi4 hl35 (by decide) hK hw f_x rfl dX4_chronicle_87 ?_
        refine p_get (ci := 1) (C := RX1) (T := TX1) (N := 6) 3 F rfl hi1 hl161 (by decide) hK hw f_h rfl dX4_chronicle_90 ?_
        refine lv_iload_n hx hb dX4_chronicle_93 rfl (lv_at hl 0 rfl) ?_
        refine p_ildI F hK hw f_c3 (vp_in_nI (show (nx + 31 - k9) % 16 < 16 by omega) (by decide)) dX4_chronicle_94 ?_
        exact ct_iret hx hb hr (vp_nar_int _) hlocks hK hw dX4_chronicle_95 (Nat.le_of_ble_eq_true rfl) (Nat.le_of_ble_eq_true rfl) ⟨rfl, Or.inl ⟨k9, 3, rfl, rfl, hk16, by decide, by rw [cl_nI (by omega)]⟩⟩
      refine lv_tableOut (tgt := 96) hx hb dX4_chronicle_24 (swOut4 k0 k1 k2 k3) (by decide) ?_
      refine lv_bipush (v := -99) hx hb dX4_chronicle_96 (by decide) ?_
      exact ct_iret hx hb hr (vp_nar_int _) hlocks hK hw dX4_chronicle_98 (Nat.le_of_ble_eq_true rfl) (Nat.le_of_ble_eq_true rfl) ⟨rfl, Or.inr ⟨fun q => q.2.elim k0 (fun q => q.elim k1 (fun q => q.elim k2 k3)), rfl⟩⟩
    · exact absurd c_8 (by decide)
  · skip
    refine lv_if_ne (tgt := 14) hx hb dX4_chronicle_8 (by decide) (fun c_8 => ?_) (fun c_8 => ?_)
    · exact absurd rfl c_8
    · skip
      refine lv_bipush (v := -99) hx hb dX4_chronicle_11 (by decide) ?_
      exact ct_iret hx hb hr (vp_nar_int _) hlocks hK hw dX4_chronicle_13 (Nat.le_of_ble_eq_true rfl) (Nat.le_of_ble_eq_true rfl) ⟨rfl, Or.inr ⟨fun q => hq_5 q.1, rfl⟩⟩

set_option maxHeartbeats 4000000 in
set_option maxRecDepth 100000 in
theorem c_X4_scribe (l : Launch) (G : va_G) (Y : Nat → ClassId) (h : PH) (ad dk : Nat → Nat) (BK : List Nat) (bS : Nat → Int32) (bN : Nat → Nat) (bV : Nat → Nat → Int64) (bT : Nat → Nat → Int32) (vA sA : Nat → Nat) (ink cop : Nat → Int32) (wai : Nat → Nat) (O : Nat → Nat → Ord) (nx he : Nat) (C : Nat → Nat → Int32) (tl : Nat → Int32) (p0 p1 : Int32) (hC : CRep Y h ad (dk, (BK, bS, bN, bV, bT, vA, sA), (ink, cop, wai, O), (nx, he, C), tl)) : ctI l G Y pw yX4_scribe wsX4_scribe ({ frames := 1, cells := 0, slots := 0, locals := 30 }) [.ref (ad 0), .int p0, .int p1] h (fun r h' => h' = h ∧ ((isS p0 ∧ p1 = 0 ∧ r = ink (cl p0)) ∨ (isS p0 ∧ p1 = 1 ∧ r = nI (wai (cl p0))) ∨ (isS p0 ∧ p1 = 2 ∧ r = cop (cl p0)) ∨ (¬ (isS p0 ∧ (p1 = 0 ∨ p1 = 1 ∨ p1 = 2)) ∧ r = -99))) := by
  refine ctI.of (cc := cX4_scribe) (maxL := 3) (ret := (some .int)) (by decide +kernel) rfl (Nat.le_of_ble_eq_true rfl) ?_
  intro A p e s m below meth c ls hB
  obtain ⟨F, hr, hlocks, hnm, hK, hA, hw, hl⟩ := hB
  obtain ⟨hx, hb, hml, hown, hts⟩ := id F
  have hl : lv_has ls 3 [(0, .ref (ad 0)), (1, .int p0), (2, .int p1)] := hl
  have hi3 : ∀ w ∈ wsX30, w ∈ wsX4_scribe := by decide +kernel
  have hi4 : ∀ w ∈ wsX40, w ∈ wsX4_scribe := by decide +kernel
  have hl27 : Cond.fieldLink RX4 27 "Scriptorium" "scribes" "[LScriptorium$Scribe;" ∈ wsX4_scribe := by decide +kernel
  have hl103 : Cond.fieldLink RX4 103 "Scriptorium$Scribe" "ink" "I" ∈ wsX4_scribe := by decide +kernel
  have hl112 : Cond.fieldLink RX4 112 "Scriptorium$Scribe" "waiting" "I" ∈ wsX4_scribe := by decide +kernel
  have hl115 : Cond.fieldLink RX4 115 "Scriptorium$Scribe" "copied" "I" ∈ wsX4_scribe := by decide +kernel
  obtain ⟨f_x, ⟨fd, f_d, hfd⟩, hbk, hnn, ⟨⟨fS, f_ss, hfS⟩, hsc⟩, ⟨f_h, hch, hnx, hhe⟩, f_t⟩ := id hC
  have f_x : pAt h (ad 0) (oX (ad 1) (ad 2) (ad 3) (ad 4) (ad 5) (ad 6)) := f_x
  have f_t : pAt h (ad 6) (aI Y 8 tl) := f_t
  refine lv_iload_n hx hb dX4_scribe_0 rfl (lv_at hl 1 rfl) ?_
  refine (c_X4_isScribe l G Y pw _ _).callS F (va_cwS 1 hts gX4_scribe_X4_isScribe rfl rfl rfl (by decide +kernel) ⟨Nat.le_of_ble_eq_true rfl, Nat.le_of_ble_eq_true rfl⟩) hK hw hA rfl rfl hl.1 (Nat.le_of_ble_eq_true rfl) dX4_scribe_1 ⟨Nat.le_of_ble_eq_true rfl, Nat.le_of_ble_eq_true rfl⟩ (fun r_1 h_1 H locs hp_1 hw => ?_)
  obtain ⟨eh_1, hp_1⟩ := hp_1
  rw [eh_1] at hw
  rcases hp_1 with ⟨hq_1, rfl⟩ | ⟨hq_1, rfl⟩
  · skip
    refine lv_if_ne (tgt := 10) hx hb dX4_scribe_4 (by decide) (fun c_4 => ?_) (fun c_4 => ?_)
    · skip
      refine lv_iload_n hx hb dX4_scribe_10 rfl (lv_at hl 2 rfl) ?_
      by_cases k0 : p1 = 0
      · subst k0
        refine lv_tableIn (off := 25) (tgt := 36) hx hb dX4_scribe_11 (by decide) (by decide) (by decide) (by decide) ?_
        refine lv_aload_n hx hb dX4_scribe_36 rfl (lv_at hl 0 rfl) ?_
        refine p_get (ci := 4) (C := RX4) (T := TX4) (N := 6) 3 F rfl hi4 hl27 (by decide) hK hw f_x rfl dX4_scribe_37 ?_
        refine lv_iload_n hx hb dX4_scribe_40 rfl (lv_at hl 1 rfl) ?_
        refine p_ldS F hK hw f_ss hq_1.in (hfS _ hq_1.lt) dX4_scribe_41 ?_
        have f_sc := (hsc _ hq_1.lt).1
        refine p_get (ci := 3) (C := RX3) (T := TX3) (N := 4) 0 F rfl hi3 hl103 (by decide) hK hw f_sc rfl dX4_scribe_42 ?_
        exact ct_iret hx hb hr (vp_nar_int _) hlocks hK hw dX4_scribe_45 (Nat.le_of_ble_eq_true rfl) (Nat.le_of_ble_eq_true rfl) ⟨rfl, Or.inl ⟨hq_1, rfl, rfl⟩⟩
      by_cases k1 : p1 = 1
      · subst k1
        refine lv_tableIn (off := 35) (tgt := 46) hx hb dX4_scribe_11 (by decide) (by decide) (by decide) (by decide) ?_
        refine lv_aload_n hx hb dX4_scribe_46 rfl (lv_at hl 0 rfl) ?_
        refine p_get (ci := 4) (C := RX4) (T := TX4) (N := 6) 3 F rfl hi4 hl27 (by decide) hK hw f_x rfl dX4_scribe_47 ?_
        refine lv_iload_n hx hb dX4_scribe_50 rfl (lv_at hl 1 rfl) ?_
        refine p_ldS F hK hw f_ss hq_1.in (hfS _ hq_1.lt) dX4_scribe_51 ?_
        have f_sc := (hsc _ hq_1.lt).1
        refine p_get (ci := 3) (C := RX3) (T := TX3) (N := 4) 2 F rfl hi3 hl112 (by decide) hK hw f_sc rfl dX4_scribe_52 ?_
        exact ct_iret hx hb hr (vp_nar_int _) hlocks hK hw dX4_scribe_55 (Nat.le_of_ble_eq_true rfl) (Nat.le_of_ble_eq_true rfl) ⟨rfl, Or.inr (Or.inl ⟨hq_1, rfl, rfl⟩)⟩
      by_cases k2 : p1 = 2
      · subst k2
        refine lv_tableIn (off := 45) (tgt := 56) hx hb dX4_scribe_11 (by decide) (by decide) (by decide) (by decide) ?_
        refine lv_aload_n hx hb dX4_scribe_56 rfl (lv_at hl 0 rfl) ?_
        refine p_get (ci := 4) (C := RX4) (T := TX4) (N := 6) 3 F rfl hi4 hl27 (by decide) hK hw f_x rfl dX4_scribe_57 ?_
        refine lv_iload_n hx hb dX4_scribe_60 rfl (lv_at hl 1 rfl) ?_
        refine p_ldS F hK hw f_ss hq_1.in (hfS _ hq_1.lt) dX4_scribe_61 ?_
        have f_sc := (hsc _ hq_1.lt).1
        refine p_get (ci := 3) (C := RX3) (T := TX3) (N := 4) 1 F rfl hi3 hl115 (by decide) hK hw f_sc rfl dX4_scribe_62 ?_
        exact ct_iret hx hb hr (vp_nar_int _) hlocks hK hw dX4_scribe_65 (Nat.le_of_ble_eq_true rfl) (Nat.le_of_ble_eq_true rfl) ⟨rfl, Or.inr (Or.inr (Or.inl ⟨hq_1, rfl, rfl⟩))⟩
      refine lv_tableOut (tgt := 66) hx hb dX4_scribe_11 (swOut3 k0 k1 k2) (by decide) ?_
      refine lv_bipush (v := -99) hx hb dX4_scribe_66 (by decide) ?_
      exact ct_iret hx hb hr (vp_nar_int _) hlocks hK hw dX4_scribe_68 (Nat.le_of_ble_eq_true rfl) (Nat.le_of_ble_eq_true rfl) ⟨rfl, Or.inr (Or.inr (Or.inr ⟨fun q => q.2.elim k0 (fun q => q.elim k1 k2), rfl⟩))⟩
    · exact absurd c_4 (by decide)
  · skip
    refine lv_if_ne (tgt := 10) hx hb dX4_scribe_4 (by decide) (fun c_4 => ?_) (fun c_4 => ?_)
    · exact absurd rfl c_4
    · skip
      refine lv_bipush (v := -99) hx hb dX4_scribe_7 (by decide) ?_
      exact ct_iret hx hb hr (vp_nar_int _) hlocks hK hw dX4_scribe_9 (Nat.le_of_ble_eq_true rfl) (Nat.le_of_ble_eq_true rfl) ⟨rfl, Or.inr (Or.inr (Or.inr ⟨fun q => hq_1 q.1, rfl⟩))⟩

set_option maxHeartbeats 4000000 in
set_option maxRecDepth 100000 in
theorem c_X4_fill (l : Launch) (G : va_G) (Y : Nat → ClassId) (h : PH) (ad dk : Nat → Nat) (BK : List Nat) (bS : Nat → Int32) (bN : Nat → Nat) (bV : Nat → Nat → Int64) (bT : Nat → Nat → Int32) (vA sA : Nat → Nat) (ink cop : Nat → Int32) (wai : Nat → Nat) (O : Nat → Nat → Ord) (nx he : Nat) (C : Nat → Nat → Int32) (tl : Nat → Int32) (p0 p1 : Int32) (hC : CRep Y h ad (dk, (BK, bS, bN, bV, bT, vA, sA), (ink, cop, wai, O), (nx, he, C), tl)) : ctI l G Y pw yX4_fill wsX4_fill ({ frames := 1, cells := 0, slots := 0, locals := 40 }) [.ref (ad 0), .int p0, .int p1] h (fun r h' => ((isS p0 ∧ ¬ p1 < 0 ∧ p1 ≤ 1000) ∧ r = mFil (ink (cl p0) + p1) ∧ CRep Y h' ad (dk, (BK, bS, bN, bV, bT, vA, sA), (upd ink (cl p0) (mFil (ink (cl p0) + p1)), upd cop (cl p0) (cop (cl p0)), wai, O), (nx, he, C), tl)) ∨ (¬ (isS p0 ∧ ¬ p1 < 0 ∧ p1 ≤ 1000) ∧ r = -99 ∧ h' = h)) := by
  refine ctI.of (cc := cX4_fill) (maxL := 3) (ret := (some .int)) (by decide +kernel) rfl (Nat.le_of_ble_eq_true rfl) ?_
  intro A p e s m below meth c ls hB
  obtain ⟨F, hr, hlocks, hnm, hK, hA, hw, hl⟩ := hB
  obtain ⟨hx, hb, hml, hown, hts⟩ := id F
  have hl : lv_has ls 3 [(0, .ref (ad 0)), (1, .int p0), (2, .int p1)] := hl
  have hi3 : ∀ w ∈ wsX30, w ∈ wsX4_fill := by decide +kernel
  have hi4 : ∀ w ∈ wsX40, w ∈ wsX4_fill := by decide +kernel
  have hl27 : Cond.fieldLink RX4 27 "Scriptorium" "scribes" "[LScriptorium$Scribe;" ∈ wsX4_fill := by decide +kernel
  have hl103 : Cond.fieldLink RX4 103 "Scriptorium$Scribe" "ink" "I" ∈ wsX4_fill := by decide +kernel
  obtain ⟨f_x, ⟨fd, f_d, hfd⟩, hbk, hnn, ⟨⟨fS, f_ss, hfS⟩, hsc⟩, ⟨f_h, hch, hnx, hhe⟩, f_t⟩ := id hC
  have f_x : pAt h (ad 0) (oX (ad 1) (ad 2) (ad 3) (ad 4) (ad 5) (ad 6)) := f_x
  have f_t : pAt h (ad 6) (aI Y 8 tl) := f_t
  refine lv_iload_n hx hb dX4_fill_0 rfl (lv_at hl 1 rfl) ?_
  refine (c_X4_isScribe l G Y pw _ _).callS F (va_cwS 1 hts gX4_fill_X4_isScribe rfl rfl rfl (by decide +kernel) ⟨Nat.le_of_ble_eq_true rfl, Nat.le_of_ble_eq_true rfl⟩) hK hw hA rfl rfl hl.1 (Nat.le_of_ble_eq_true rfl) dX4_fill_1 ⟨Nat.le_of_ble_eq_true rfl, Nat.le_of_ble_eq_true rfl⟩ (fun r_1 h_1 H locs hp_1 hw => ?_)
  obtain ⟨eh_1, hp_1⟩ := hp_1
  rw [eh_1] at hw
  rcases hp_1 with ⟨hq_1, rfl⟩ | ⟨hq_1, rfl⟩
  · skip
    refine lv_if_eq (tgt := 18) hx hb dX4_fill_4 (by decide) (fun c_4 => ?_) (fun c_4 => ?_)
    · exact absurd c_4 (by decide)
    · skip
      refine lv_iload_n hx hb dX4_fill_7 rfl (lv_at hl 2 rfl) ?_
      refine lv_if_lt (tgt := 18) hx hb dX4_fill_8 (by decide) (fun c_8 => ?_) (fun c_8 => ?_)
      · skip
        refine lv_bipush (v := -99) hx hb dX4_fill_18 (by decide) ?_
        exact ct_iret hx hb hr (vp_nar_int _) hlocks hK hw dX4_fill_20 (Nat.le_of_ble_eq_true rfl) (Nat.le_of_ble_eq_true rfl) (Or.inr ⟨fun q => q.2.1 c_8, rfl, rfl⟩)
      · skip
        refine lv_iload_n hx hb dX4_fill_11 rfl (lv_at hl 2 rfl) ?_
        refine lv_sipush (v := 1000) hx hb dX4_fill_12 (by decide) ?_
        refine lv_icmp_le (tgt := 21) hx hb dX4_fill_15 (by decide) (fun c_15 => ?_) (fun c_15 => ?_)
        · skip
          refine lv_aload_n hx hb dX4_fill_21 rfl (lv_at hl 0 rfl) ?_
          refine p_get (ci := 4) (C := RX4) (T := TX4) (N := 6) 3 F rfl hi4 hl27 (by decide) hK hw f_x rfl dX4_fill_22 ?_
          refine lv_iload_n hx hb dX4_fill_25 rfl (lv_at hl 1 rfl) ?_
          refine p_ldS F hK hw f_ss hq_1.in (hfS _ hq_1.lt) dX4_fill_26 ?_
          have f_sc := (hsc _ hq_1.lt).1
          refine lv_sipush (v := 1000) hx hb dX4_fill_27 (by decide) ?_
          refine lv_aload_n hx hb dX4_fill_30 rfl (lv_at hl 0 rfl) ?_
          refine p_get (ci := 4) (C := RX4) (T := TX4) (N := 6) 3 F rfl hi4 hl27 (by decide) hK hw f_x rfl dX4_fill_31 ?_
          refine lv_iload_n hx hb dX4_fill_34 rfl (lv_at hl 1 rfl) ?_
          refine p_ldS F hK hw f_ss hq_1.in (hfS _ hq_1.lt) dX4_fill_35 ?_
          refine p_get (ci := 3) (C := RX3) (T := TX3) (N := 4) 0 F rfl hi3 hl103 (by decide) hK hw f_sc rfl dX4_fill_36 ?_
          refine lv_iload_n hx hb dX4_fill_39 rfl (lv_at hl 2 rfl) ?_
          refine lv_iadd hx hb dX4_fill_40 ?_
          refine va_mmin hx hb (hml.trans hl.1.symm) hown (hts (.methodLink RX4 106 Lib.Math.min.name) (by decide +kernel)) (hts (.static Lib.Math.min.name) (by decide +kernel)) (hts (.initialized "java/lang/Math") (by decide +kernel)) (hts (.code Lib.Math.min.name Lib.Math.min.code 2 (some .int)) (by decide +kernel)) (Nat.le_of_ble_eq_true rfl) (Nat.le_of_ble_eq_true rfl) (Nat.le_of_ble_eq_true rfl) (Nat.le_of_ble_eq_true rfl) dX4_fill_41 ?_
          rw [show (if ink (cl p0) + p1 < 1000 then ink (cl p0) + p1 else 1000) = mFil (ink (cl p0) + p1) from mFil_min _]
          have f_sc_0 := f_sc
          refine q_put (fs' := [_, _, _, _]) (ci := 3) (C := RX3) (T := TX3) (N := 4) (ty0 := tyX3) (ty := .int) 0 F rfl hi3 tyX3_ok nmX3 hl103 (by decide) rfl (by decide +kernel) rfl rfl (Nat.le_of_ble_eq_true rfl) hK hw f_sc rfl dX4_fill_44 (fun h_44 H locs f_sc fr_44 hw => ?_)
          have f_x := fr_44.one f_x (f_x.kinds f_sc_0 (by simp))
          have f_ss := fr_44.one f_ss (f_ss.kinds f_sc_0 (by simp))
          refine lv_aload_n hx hb dX4_fill_47 rfl (lv_at hl 0 rfl) ?_
          refine p_get (ci := 4) (C := RX4) (T := TX4) (N := 6) 3 F rfl hi4 hl27 (by decide) hK hw f_x rfl dX4_fill_48 ?_
          refine lv_iload_n hx hb dX4_fill_51 rfl (lv_at hl 1 rfl) ?_
          refine p_ldS F hK hw f_ss hq_1.in (hfS _ hq_1.lt) dX4_fill_52 ?_
          refine p_get (ci := 3) (C := RX3) (T := TX3) (N := 4) 0 F rfl hi3 hl103 (by decide) hK hw f_sc rfl dX4_fill_53 ?_
          exact ct_iret hx hb hr (vp_nar_int _) hlocks hK hw dX4_fill_56 (Nat.le_of_ble_eq_true rfl) (Nat.le_of_ble_eq_true rfl) (Or.inl ⟨⟨hq_1, c_8, c_15⟩, rfl, hC.scr hq_1.lt fr_44 f_sc⟩)
        · skip
          refine lv_bipush (v := -99) hx hb dX4_fill_18 (by decide) ?_
          exact ct_iret hx hb hr (vp_nar_int _) hlocks hK hw dX4_fill_20 (Nat.le_of_ble_eq_true rfl) (Nat.le_of_ble_eq_true rfl) (Or.inr ⟨fun q => c_15 q.2.2, rfl, rfl⟩)
  · skip
    refine lv_if_eq (tgt := 18) hx hb dX4_fill_4 (by decide) (fun c_4 => ?_) (fun c_4 => ?_)
    · skip
      refine lv_bipush (v := -99) hx hb dX4_fill_18 (by decide) ?_
      exact ct_iret hx hb hr (vp_nar_int _) hlocks hK hw dX4_fill_20 (Nat.le_of_ble_eq_true rfl) (Nat.le_of_ble_eq_true rfl) (Or.inr ⟨fun q => hq_1 q.1, rfl, rfl⟩)
    · exact absurd rfl c_4

set_option maxHeartbeats 4000000 in
set_option maxRecDepth 100000 in
theorem c_X4_perform (l : Launch) (G : va_G) (Y : Nat → ClassId) (h : PH) (ad dk : Nat → Nat) (BK : List Nat) (bS : Nat → Int32) (bN : Nat → Nat) (bV : Nat → Nat → Int64) (bT : Nat → Nat → Int32) (vA sA : Nat → Nat) (ink cop : Nat → Int32) (wai : Nat → Nat) (O : Nat → Nat → Ord) (nx he : Nat) (C : Nat → Nat → Int32) (tl : Nat → Int32) (p9 : Nat) (ps pa pi pb pj pn : Int32) (hC : CRep Y h ad (dk, (BK, bS, bN, bV, bT, vA, sA), (ink, cop, wai, O), (nx, he, C), tl)) (f_p : pAt h p9 (oPas ps pa pi pb pj pn)) : ctI l G Y pw yX4_perform wsX4_perform ({ frames := 4, cells := 0, slots := 0, locals := 160 }) [.ref (ad 0), .ref p9] h (fun r h' => ∃ cs', CRep Y h' ad cs' ∧ cPerfP (dk, (BK, bS, bN, bV, bT, vA, sA), (ink, cop, wai, O), (nx, he, C), tl) ps pa pi pb pj pn r cs') := by
  refine ctI.of (cc := cX4_perform) (maxL := 5) (ret := (some .int)) (by decide +kernel) rfl (Nat.le_of_ble_eq_true rfl) ?_
  intro A p e s m below meth c ls hB
  obtain ⟨F, hr, hlocks, hnm, hK, hA, hw, hl⟩ := hB
  obtain ⟨hx, hb, hml, hown, hts⟩ := id F
  have hl : lv_has ls 5 [(0, .ref (ad 0)), (1, .ref p9)] := hl
  have hi2 : ∀ w ∈ wsX20, w ∈ wsX4_perform := by decide +kernel
  have hi3 : ∀ w ∈ wsX30, w ∈ wsX4_perform := by decide +kernel
  have hi4 : ∀ w ∈ wsX40, w ∈ wsX4_perform := by decide +kernel
  have hl21 : Cond.fieldLink RX4 21 "Scriptorium" "desks" "[LScriptorium$Book;" ∈ wsX4_perform := by decide +kernel
  have hl27 : Cond.fieldLink RX4 27 "Scriptorium" "scribes" "[LScriptorium$Scribe;" ∈ wsX4_perform := by decide +kernel
  have hl35 : Cond.fieldLink RX4 35 "Scriptorium" "latest" "LScriptorium$Chronicle;" ∈ wsX4_perform := by decide +kernel
  have hl39 : Cond.fieldLink RX4 39 "Scriptorium" "tallies" "[I" ∈ wsX4_perform := by decide +kernel
  have hl103 : Cond.fieldLink RX4 103 "Scriptorium$Scribe" "ink" "I" ∈ wsX4_perform := by decide +kernel
  have hl164 : Cond.fieldLink RX4 164 "Scriptorium$Passage" "scribe" "I" ∈ wsX4_perform := by decide +kernel
  have hl167 : Cond.fieldLink RX4 167 "Scriptorium$Passage" "a" "I" ∈ wsX4_perform := by decide +kernel
  have hl170 : Cond.fieldLink RX4 170 "Scriptorium$Passage" "b" "I" ∈ wsX4_perform := by decide +kernel
  have hl173 : Cond.fieldLink RX4 173 "Scriptorium$Passage" "n" "I" ∈ wsX4_perform := by decide +kernel
  obtain ⟨f_x, ⟨fd, f_d, hfd⟩, hbk, hnn, ⟨⟨fS, f_ss, hfS⟩, hsc⟩, ⟨f_h, hch, hnx, hhe⟩, f_t⟩ := id hC
  have f_x : pAt h (ad 0) (oX (ad 1) (ad 2) (ad 3) (ad 4) (ad 5) (ad 6)) := f_x
  have f_t : pAt h (ad 6) (aI Y 8 tl) := f_t
  refine lv_aload_n hx hb dX4_perform_0 rfl (lv_at hl 1 rfl) ?_
  refine (c_X4_isPossible l G Y _ _ _ _ _ _ _ _ f_p).callS F (va_cwS 1 hts gX4_perform_X4_isPossible rfl rfl rfl (by decide +kernel) ⟨Nat.le_of_ble_eq_true rfl, Nat.le_of_ble_eq_true rfl⟩) hK hw hA rfl rfl hl.1 (Nat.le_of_ble_eq_true rfl) dX4_perform_1 ⟨Nat.le_of_ble_eq_true rfl, Nat.le_of_ble_eq_true rfl⟩ (fun r_1 h_1 H locs hp_1 hw => ?_)
  obtain ⟨eh_1, hp_1⟩ := hp_1
  rw [eh_1] at hw
  rcases hp_1 with ⟨hq_1, rfl⟩ | ⟨hq_1, rfl⟩
  · skip
    refine lv_if_ne (tgt := 10) hx hb dX4_perform_4 (by decide) (fun c_4 => ?_) (fun c_4 => ?_)
    · skip
      refine lv_aload_n hx hb dX4_perform_10 rfl (lv_at hl 0 rfl) ?_
      refine p_get (ci := 4) (C := RX4) (T := TX4) (N := 6) 3 F rfl hi4 hl27 (by decide) hK hw f_x rfl dX4_perform_11 ?_
      refine lv_aload_n hx hb dX4_perform_14 rfl (lv_at hl 1 rfl) ?_
      refine p_get (ci := 2) (C := RX2) (T := TX2) (N := 6) 0 F rfl hi2 hl164 (by decide) hK hw f_p rfl dX4_perform_15 ?_
      refine p_ldS F hK hw f_ss hq_1.1.in (hfS _ hq_1.1.lt) dX4_perform_18 ?_
      obtain ⟨f_sc, hw8, gO, f_or, hO⟩ := hsc _ hq_1.1.lt
      refine lv_astore_n (lv' := [(2, .ref _), (0, .ref _), (1, .ref _)]) hx hb dX4_perform_19 rfl hl (by decide) rfl (fun ls hl => ?_)
      refine lv_aload_n hx hb dX4_perform_20 rfl (lv_at hl 0 rfl) ?_
      refine p_get (ci := 3) (C := RX3) (T := TX3) (N := 4) 0 F rfl hi3 hl103 (by decide) hK hw f_sc rfl dX4_perform_21 ?_
      refine lv_aload_n hx hb dX4_perform_24 rfl (lv_at hl 2 rfl) ?_
      refine p_get (ci := 2) (C := RX2) (T := TX2) (N := 6) 5 F rfl hi2 hl173 (by decide) hK hw f_p rfl dX4_perform_25 ?_
      refine lv_icmp_ge (tgt := 34) hx hb dX4_perform_28 (by decide) (fun c_28 => ?_) (fun c_28 => ?_)
      · skip
        refine lv_aload_n hx hb dX4_perform_34 rfl (lv_at hl 2 rfl) ?_
        refine lv_aload_n hx hb dX4_perform_35 rfl (lv_at hl 1 rfl) ?_
        refine p_get (ci := 4) (C := RX4) (T := TX4) (N := 6) 2 F rfl hi4 hl21 (by decide) hK hw f_x rfl dX4_perform_36 ?_
        refine lv_aload_n hx hb dX4_perform_39 rfl (lv_at hl 2 rfl) ?_
        refine p_get (ci := 2) (C := RX2) (T := TX2) (N := 6) 1 F rfl hi2 hl167 (by decide) hK hw f_p rfl dX4_perform_40 ?_
        refine p_ldB F hK hw f_d hq_1.2.1.in (hfd _ hq_1.2.1.lt).1 dX4_perform_43 ?_
        refine lv_aload_n hx hb dX4_perform_44 rfl (lv_at hl 1 rfl) ?_
        refine p_get (ci := 4) (C := RX4) (T := TX4) (N := 6) 2 F rfl hi4 hl21 (by decide) hK hw f_x rfl dX4_perform_45 ?_
        refine lv_aload_n hx hb dX4_perform_48 rfl (lv_at hl 2 rfl) ?_
        refine p_get (ci := 2) (C := RX2) (T := TX2) (N := 6) 3 F rfl hi2 hl170 (by decide) hK hw f_p rfl dX4_perform_49 ?_
        refine p_ldB F hK hw f_d hq_1.2.2.in (hfd _ hq_1.2.2.lt).1 dX4_perform_52 ?_
        obtain ⟨f_o, f_ov, f_os, hn_o⟩ := hbk _ (hfd _ hq_1.2.1.lt).2
        obtain ⟨f_b, f_bv, f_bs, hn_b⟩ := hbk _ (hfd _ hq_1.2.2.lt).2
        refine (c_X4_transcribe l G Y _ _ _ _ _ _ _ _ _ _ _ _ _ _ _ _ _ _ _ _ _ _ f_p f_o f_ov f_os f_b f_bv f_bs hn_o hn_b).callS F (va_cwS 3 hts gX4_perform_X4_transcribe rfl rfl rfl (by decide +kernel) ⟨Nat.le_of_ble_eq_true rfl, Nat.le_of_ble_eq_true rfl⟩) hK hw hA rfl rfl hl.1 (Nat.le_of_ble_eq_true rfl) dX4_perform_53 ⟨Nat.le_of_ble_eq_true rfl, Nat.le_of_ble_eq_true rfl⟩ (fun r_53 h_53 H locs hp_53 hw => ?_)
        obtain ⟨V', T', hcp, hC1, frP⟩ := hC.pass (hfd _ hq_1.2.2.lt).2 hp_53
        have hrr := cPass_rng hn_b hcp
        have f_p := frP _ _ (nin2 (f_p.kinds f_bv (by simp)) (f_p.kinds f_bs (by simp))) f_p
        obtain ⟨f_x, ⟨fd, f_d, hfd⟩, hbk, hnn, ⟨⟨fS, f_ss, hfS⟩, hsc⟩, ⟨f_h, hch, hnx, hhe⟩, f_t⟩ := id hC1
        have f_x : pAt h_53 (ad 0) (oX (ad 1) (ad 2) (ad 3) (ad 4) (ad 5) (ad 6)) := f_x
        obtain ⟨f_sc, hw8, gO, f_or, hO⟩ := hsc _ hq_1.1.lt
        refine lv_istore_n (lv' := [(3, .int _), (2, .ref _), (0, .ref _), (1, .ref _)]) hx hb dX4_perform_56 rfl hl (by decide) rfl (fun ls hl => ?_)
        refine lv_iload_n hx hb dX4_perform_57 rfl (lv_at hl 0 rfl) ?_
        refine (c_X4_signsCopied l G Y pw _ _).callS F (va_cwS 1 hts gX4_perform_X4_signsCopied rfl rfl rfl (by decide +kernel) ⟨Nat.le_of_ble_eq_true rfl, Nat.le_of_ble_eq_true rfl⟩) hK hw hA rfl rfl hl.1 (Nat.le_of_ble_eq_true rfl) dX4_perform_58 ⟨Nat.le_of_ble_eq_true rfl, Nat.le_of_ble_eq_true rfl⟩ (fun r_58 h_58 H locs hp_58 hw => ?_)
        obtain ⟨eh_58, rfl⟩ := hp_58
        rw [eh_58] at hw
        refine lv_istore (lv' := [(4, .int _), (3, .int _), (2, .ref _), (0, .ref _), (1, .ref _)]) hx hb dX4_perform_61 hl (by decide) rfl (fun ls hl => ?_)
        refine lv_aload_n hx hb dX4_perform_63 rfl (lv_at hl 2 rfl) ?_
        refine lv_iload hx hb dX4_perform_64 (lv_at hl 0 rfl) ?_
        refine (c_X3_use l G Y _ _ _ _ _ _ _ f_sc).callV F (cwV 1 hts gX4_perform_X3_use rfl rfl rfl (by decide +kernel) ⟨Nat.le_of_ble_eq_true rfl, Nat.le_of_ble_eq_true rfl⟩) hK hw hA (p_recv hK hw f_sc rfl) rfl rfl hl.1 (Nat.le_of_ble_eq_true rfl) dX4_perform_66 ⟨Nat.le_of_ble_eq_true rfl, Nat.le_of_ble_eq_true rfl⟩ (fun h_66 H locs hp_66 hw => ?_)
        obtain ⟨frU, f_sc2⟩ := hp_66
        have f_p := frU.one f_p (f_p.kinds f_sc (by simp))
        have hC2 := hC1.scr hq_1.1.lt frU f_sc2
        obtain ⟨f_x, ⟨fd, f_d, hfd⟩, hbk, hnn, ⟨⟨fS, f_ss, hfS⟩, hsc⟩, ⟨f_h, hch, hnx, hhe⟩, f_t⟩ := id hC2
        have f_x : pAt h_66 (ad 0) (oX (ad 1) (ad 2) (ad 3) (ad 4) (ad 5) (ad 6)) := f_x
        have f_t : pAt h_66 (ad 6) (aI Y 8 tl) := f_t
        refine lv_aload_n hx hb dX4_perform_69 rfl (lv_at hl 3 rfl) ?_
        refine p_get (ci := 4) (C := RX4) (T := TX4) (N := 6) 5 F rfl hi4 hl39 (by decide) hK hw f_x rfl dX4_perform_70 ?_
        refine lv_iconst (v := 0) hx hb dX4_perform_73 (by decide) ?_
        refine lv_dup2_11 hx hb dX4_perform_74 rfl rfl ?_
        refine p_ildI F hK hw f_t (vp_in_nI (n := 0) (by decide) (by decide)) dX4_perform_75 ?_
        refine lv_iconst (v := 1) hx hb dX4_perform_76 (by decide) ?_
        refine lv_iadd hx hb dX4_perform_77 ?_
        have f_t_0 := f_t
        refine q_stI F hK hw f_t (vp_in_nI (n := 0) (by decide) (by decide)) dX4_perform_78 (fun h_78 H locs f_t fr_78 hw => ?_)
        have f_p := fr_78.one f_p (f_p.kinds f_t_0 (by simp))
        have f_x := fr_78.one f_x (f_x.kinds f_t_0 (by simp))
        refine lv_aload_n hx hb dX4_perform_79 rfl (lv_at hl 3 rfl) ?_
        refine p_get (ci := 4) (C := RX4) (T := TX4) (N := 6) 5 F rfl hi4 hl39 (by decide) hK hw f_x rfl dX4_perform_80 ?_
        refine lv_iload_n hx hb dX4_perform_83 rfl (lv_at hl 1 rfl) ?_
        refine (c_X4_tallyOf l G Y pw _ _ hrr).callS F (va_cwS 1 hts gX4_perform_X4_tallyOf rfl rfl rfl (by decide +kernel) ⟨Nat.le_of_ble_eq_true rfl, Nat.le_of_ble_eq_true rfl⟩) hK hw hA rfl rfl hl.1 (Nat.le_of_ble_eq_true rfl) dX4_perform_84 ⟨Nat.le_of_ble_eq_true rfl, Nat.le_of_ble_eq_true rfl⟩ (fun r_84 h_84 H locs hp_84 hw => ?_)
        obtain ⟨eh_84, rfl⟩ := hp_84
        rw [eh_84] at hw
        refine lv_dup2_11 hx hb dX4_perform_87 rfl rfl ?_
        refine p_ildI F hK hw f_t (mTal_in hrr) dX4_perform_88 ?_
        refine lv_iconst (v := 1) hx hb dX4_perform_89 (by decide) ?_
        refine lv_iadd hx hb dX4_perform_90 ?_
        have f_t_0 := f_t
        refine q_stI F hK hw f_t (mTal_in hrr) dX4_perform_91 (fun h_91 H locs f_t fr_91 hw => ?_)
        have f_p := fr_91.one f_p (f_p.kinds f_t_0 (by simp))
        have f_x := fr_91.one f_x (f_x.kinds f_t_0 (by simp))
        refine lv_aload_n hx hb dX4_perform_92 rfl (lv_at hl 3 rfl) ?_
        refine p_get (ci := 4) (C := RX4) (T := TX4) (N := 6) 5 F rfl hi4 hl39 (by decide) hK hw f_x rfl dX4_perform_93 ?_
        refine lv_bipush (v := 6) hx hb dX4_perform_96 (by decide) ?_
        refine lv_dup2_11 hx hb dX4_perform_98 rfl rfl ?_
        refine p_ildI F hK hw f_t (vp_in_nI (n := 6) (by decide) (by decide)) dX4_perform_99 ?_
        refine lv_iload hx hb dX4_perform_100 (lv_at hl 0 rfl) ?_
        refine lv_iadd hx hb dX4_perform_102 ?_
        have f_t_0 := f_t
        refine q_stI F hK hw f_t (vp_in_nI (n := 6) (by decide) (by decide)) dX4_perform_103 (fun h_103 H locs f_t fr_103 hw => ?_)
        have f_p := fr_103.one f_p (f_p.kinds f_t_0 (by simp))
        have f_x := fr_103.one f_x (f_x.kinds f_t_0 (by simp))
        have hC3 := hC2.tal ((fr_78.trans (fr_91.trans fr_103)).mono (by simp)) f_t
        obtain ⟨f_x, ⟨fd, f_d, hfd⟩, hbk, hnn, ⟨⟨fS, f_ss, hfS⟩, hsc⟩, ⟨f_h, hch, hnx, hhe⟩, f_t⟩ := id hC3
        have f_x : pAt h_103 (ad 0) (oX (ad 1) (ad 2) (ad 3) (ad 4) (ad 5) (ad 6)) := f_x
        refine lv_aload_n hx hb dX4_perform_104 rfl (lv_at hl 3 rfl) ?_
        refine p_get (ci := 4) (C := RX4) (T := TX4) (N := 6) 4 F rfl hi4 hl35 (by decide) hK hw f_x rfl dX4_perform_105 ?_
        refine lv_aload_n hx hb dX4_perform_108 rfl (lv_at hl 4 rfl) ?_
        refine lv_iload_n hx hb dX4_perform_109 rfl (lv_at hl 1 rfl) ?_
        refine (c_X1_add l G Y _ _ _ _ _ _ _ _ _ _ _ _ _ _ _ _ _ _ _ _ f_h (hch 0 (by decide)) (hch 1 (by decide)) (hch 2 (by decide)) (hch 3 (by decide)) f_p hnx hhe (fun q => absurd (hnn.2.2.2.2.1 0 1 (by decide) (by decide) q) (by decide)) (fun q => absurd (hnn.2.2.2.2.1 0 2 (by decide) (by decide) q) (by decide)) (fun q => absurd (hnn.2.2.2.2.1 0 3 (by decide) (by decide) q) (by decide)) (fun q => absurd (hnn.2.2.2.2.1 1 2 (by decide) (by decide) q) (by decide)) (fun q => absurd (hnn.2.2.2.2.1 1 3 (by decide) (by decide) q) (by decide)) (fun q => absurd (hnn.2.2.2.2.1 2 3 (by decide) (by decide) q) (by decide))).callV F (cwV 2 hts gX4_perform_X1_add rfl rfl rfl (by decide +kernel) ⟨Nat.le_of_ble_eq_true rfl, Nat.le_of_ble_eq_true rfl⟩) hK hw hA (p_recv hK hw f_h rfl) rfl rfl hl.1 (Nat.le_of_ble_eq_true rfl) dX4_perform_110 ⟨Nat.le_of_ble_eq_true rfl, Nat.le_of_ble_eq_true rfl⟩ (fun h_110 H locs hp_110 hw => ?_)
        obtain ⟨frA, g1, g2, g3, g4, g5⟩ := hp_110
        have hC4 := hC3.chr (nx' := (nx + 1) % 16) frA (by omega) (by by_cases q : he + 1 < 16 <;> simp [q] <;> omega) g1 g2 g3 g4 g5
        refine lv_iload_n hx hb dX4_perform_113 rfl (lv_at hl 1 rfl) ?_
        exact ct_iret hx hb hr (vp_nar_int _) hlocks hK hw dX4_perform_114 (Nat.le_of_ble_eq_true rfl) (Nat.le_of_ble_eq_true rfl) ⟨_, hC4, Or.inr (Or.inr ⟨hq_1, Int32.not_lt.mpr c_28, V', T', hcp, rfl⟩)⟩
      · skip
        refine lv_bipush (v := -50) hx hb dX4_perform_31 (by decide) ?_
        exact ct_iret hx hb hr (vp_nar_int _) hlocks hK hw dX4_perform_33 (Nat.le_of_ble_eq_true rfl) (Nat.le_of_ble_eq_true rfl) ⟨_, hC, Or.inr (Or.inl ⟨hq_1, Int32.not_le.mp c_28, rfl, rfl⟩)⟩
    · exact absurd c_4 (by decide)
  · skip
    refine lv_if_ne (tgt := 10) hx hb dX4_perform_4 (by decide) (fun c_4 => ?_) (fun c_4 => ?_)
    · exact absurd rfl c_4
    · skip
      refine lv_bipush (v := -99) hx hb dX4_perform_7 (by decide) ?_
      exact ct_iret hx hb hr (vp_nar_int _) hlocks hK hw dX4_perform_9 (Nat.le_of_ble_eq_true rfl) (Nat.le_of_ble_eq_true rfl) ⟨_, hC, Or.inl ⟨hq_1, rfl, rfl⟩⟩
