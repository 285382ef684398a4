set_option maxHeartbeats 4000000 in
set_option maxRecDepth 100000 in
theorem c_m_day (l : Launch) (G : va_G) (Y : Nat → ClassId) (x : Nat) (ad : Nat → Nat) (d sc sz : Nat → Int32) (sg : Nat → Int64) (ik cp wt wa ch ct : Nat → Int32) (th : Int32)  (hd : dOK d) (hz : zOK sz) (hwa : wOK wa) (c00 : Nat) (hc0 : c0OK ct c00) (hcb : c00 + 4 < 2 ^ 30) : ctI l G Y (mW Y x ad) yX5_day wsX5_day ({ frames := 3, cells := 0, slots := 0, locals := 180 }) [.ref x] (d, sc, sz, sg, ik, cp, wt, wa, ch, ct, th) (fun r u' => ∃ n, mDayN 3 (d, sc, sz, sg, ik, cp, wt, wa, ch, ct, 0) u' n ∧ r = nI n) := by
  refine ctI.of (cc := cX5_day) (maxL := 5) (ret := (some .int)) (by decide) rfl (Nat.le_of_ble_eq_true rfl) ?_
  intro A p e s m below meth c ls hB
  obtain ⟨F, hr, hlocks, hnm, hK, hA, hw, hl⟩ := hB
  obtain ⟨hx, hb, hml, hown, hts⟩ := id F
  have hl : lv_has ls 5 [(0, .ref x)] := hl
  have hi : ∀ w ∈ wsX50, w ∈ wsX5_day := by decide +kernel
  have hl29 : Cond.fieldLink RX5 29 "ScriptoriumModel" "wait" "[I" ∈ wsX5_day := by decide +kernel
  have hl32 : Cond.fieldLink RX5 32 "ScriptoriumModel" "waits" "[I" ∈ wsX5_day := by decide +kernel
  have hl41 : Cond.fieldLink RX5 41 "ScriptoriumModel" "thrown" "I" ∈ wsX5_day := by decide +kernel
  refine lv_aload_n hx hb dX5_day_0 rfl (lv_at hl 0 rfl) ?_
  refine lv_iconst (v := 0) hx hb dX5_day_1 (by decide) ?_
  refine m_put10 F hi hl41 hK hw dX5_day_2 (fun H locs hw => ?_)
  refine lv_iconst (v := 0) hx hb dX5_day_5 (by decide) ?_
  refine lv_istore_n (lv' := [(1, .int _), (0, .ref _)]) hx hb dX5_day_6 rfl hl (by decide) rfl (fun ls hl => ?_)
  refine lv_iconst (v := 0) hx hb dX5_day_7 (by decide) ?_
  refine lv_istore_n (lv' := [(2, .int _), (1, .int _), (0, .ref _)]) hx hb dX5_day_8 rfl hl (by decide) rfl (fun ls hl => ?_)
  obtain ⟨U9, hU9⟩ : ∃ U9 : MS, U9 = (d, sc, sz, sg, ik, cp, wt, wa, ch, ct, 0) := ⟨_, rfl⟩
  refine W_loop (σ := Nat × Nat × MS) 9 (fun n (q : Nat × Nat × MS) H locs ls => n = 3 - q.1 ∧ q.1 ≤ 3 ∧ mDayN q.1 U9 q.2.2 q.2.1 ∧ mI q.2.2 (c00 + q.1) ∧ wW G A s.heap (mW Y x ad q.2.2) H locs ∧ lv_has ls 5 [(2, .int (nI q.1)), (1, .int (nI q.2.1)), (0, .ref x)]) ?_ (n := 3) (x := (0, 0, (d, sc, sz, sg, ik, cp, wt, wa, ch, ct, 0))) ⟨rfl, by omega, ⟨hU9.symm, rfl⟩, ⟨hd, hz, hwa, rfl, c00, hc0, Nat.le_refl _⟩, hw, hl⟩
  intro n q H locs ls hI ih
  obtain ⟨sn, dn, d, sc, sz, sg, ik, cp, wt, wa, ch, ct, th⟩ := q
  obtain ⟨hn, hsn, hN, ⟨hd, hz, hwa, hth, c9, hc9, hc9b⟩, hw, hl⟩ := hI
  dsimp only at hn hsn hN hc9b hw hl
  refine lv_iload_n hx hb dX5_day_9 rfl (lv_at hl 0 rfl) ?_
  refine lv_iconst (v := 3) hx hb dX5_day_10 (by decide) ?_
  refine lv_icmp_ge (tgt := 140) hx hb dX5_day_11 (by decide) (fun c_11 => ?_) (fun c_11 => ?_)
  · skip
    have hs3 : sn = 3 := by
      have := le_of_c (a := 3) (by decide) (by omega) c_11
      omega
    subst hs3
    refine lv_iload_n hx hb dX5_day_140 rfl (lv_at hl 1 rfl) ?_
    exact ct_iret hx hb hr (vp_nar_int _) hlocks hK hw dX5_day_141 (Nat.le_of_ble_eq_true rfl) (Nat.le_of_ble_eq_true rfl) ⟨dn, by rw [← hU9]; exact hN, rfl⟩
  · skip
    have hs3 : sn < 3 := lt_of_c (a := 3) (by decide) (by omega) c_11
    have hcs : cl (nI sn) = sn := cl_nI (by omega)
    refine lv_bipush (v := 40) hx hb dX5_day_14 (by decide) ?_
    refine lv_iload_n hx hb dX5_day_16 rfl (lv_at hl 0 rfl) ?_
    refine lv_imul hx hb dX5_day_17 ?_
    rw [mul40]
    refine lv_istore_n (lv' := [(3, .int _), (2, .int _), (1, .int _), (0, .ref _)]) hx hb dX5_day_18 rfl hl (by decide) rfl (fun ls hl => ?_)
    refine lv_aload_n hx hb dX5_day_19 rfl (lv_at hl 3 rfl) ?_
    refine m_get7 F hi hl32 hK hw dX5_day_20 ?_
    refine lv_iload_n hx hb dX5_day_23 rfl (lv_at hl 1 rfl) ?_
    refine m_ld7 F hK hw (nI_isS hs3).in dX5_day_24 ?_
    refine lv_if_eq (tgt := 134) hx hb dX5_day_25 (by decide) (fun c_25 => ?_) (fun c_25 => ?_)
    · skip
      refine lv_iinc (lv' := [(2, .int _), (3, .int _), (1, .int _), (0, .ref _)]) hx hb dX5_day_134 hl (k := 1) rfl rfl (by decide) rfl (fun ls hl => ?_)
      refine lv_goto (tgt := 9) hx hb dX5_day_137 (by decide) ?_
      exact ih _ (sn + 1, dn + 0, (d, sc, sz, sg, ik, cp, wt, wa, ch, ct, th)) _ _ _ (by omega) ⟨rfl, by omega, ⟨_, dn, 0, hN, Or.inl ⟨by rw [cl_nI (by omega)] at c_25; exact c_25, rfl, rfl⟩, rfl⟩, ⟨hd, hz, hwa, hth, c9, hc9, by omega⟩, hw, by
        have hl := lv_sub hl [0, 2, 3] rfl
        rw [nI_succ]; exact hl⟩
    · skip
      refine lv_aload_n hx hb dX5_day_28 rfl (lv_at hl 3 rfl) ?_
      refine lv_iload_n hx hb dX5_day_29 rfl (lv_at hl 1 rfl) ?_
      refine lv_aload_n hx hb dX5_day_30 rfl (lv_at hl 3 rfl) ?_
      refine m_get6 F hi hl29 hK hw dX5_day_31 ?_
      refine lv_iload_n hx hb dX5_day_34 rfl (lv_at hl 0 rfl) ?_
      refine m_ld6 F hK hw (in120 (by omega)) dX5_day_35 ?_
      rw [cl_nI (show 40 * sn < 2 ^ 31 by omega)]
      refine lv_aload_n hx hb dX5_day_36 rfl (lv_at hl 3 rfl) ?_
      refine m_get6 F hi hl29 hK hw dX5_day_37 ?_
      refine lv_iload_n hx hb dX5_day_40 rfl (lv_at hl 0 rfl) ?_
      refine lv_iconst (v := 1) hx hb dX5_day_41 (by decide) ?_
      refine lv_iadd hx hb dX5_day_42 ?_
      refine m_ld6 F hK hw (by rw [show (1 : Int32) = nI 1 from rfl, nI_add]; exact in120 (by omega)) dX5_day_43 ?_
      rw [show (1 : Int32) = nI 1 from rfl, nI_add, cl_nI (show 40 * sn + 1 < 2 ^ 31 by omega)]
      refine lv_aload_n hx hb dX5_day_44 rfl (lv_at hl 3 rfl) ?_
      refine m_get6 F hi hl29 hK hw dX5_day_45 ?_
      refine lv_iload_n hx hb dX5_day_48 rfl (lv_at hl 0 rfl) ?_
      refine lv_iconst (v := 2) hx hb dX5_day_49 (by decide) ?_
      refine lv_iadd hx hb dX5_day_50 ?_
      refine m_ld6 F hK hw (by rw [show (2 : Int32) = nI 2 from rfl, nI_add]; exact in120 (by omega)) dX5_day_51 ?_
      rw [show (2 : Int32) = nI 2 from rfl, nI_add, cl_nI (show 40 * sn + 2 < 2 ^ 31 by omega)]
      refine lv_aload_n hx hb dX5_day_52 rfl (lv_at hl 3 rfl) ?_
      refine m_get6 F hi hl29 hK hw dX5_day_53 ?_
      refine lv_iload_n hx hb dX5_day_56 rfl (lv_at hl 0 rfl) ?_
      refine lv_iconst (v := 3) hx hb dX5_day_57 (by decide) ?_
      refine lv_iadd hx hb dX5_day_58 ?_
      refine m_ld6 F hK hw (by rw [show (3 : Int32) = nI 3 from rfl, nI_add]; exact in120 (by omega)) dX5_day_59 ?_
      rw [show (3 : Int32) = nI 3 from rfl, nI_add, cl_nI (show 40 * sn + 3 < 2 ^ 31 by omega)]
      refine lv_aload_n hx hb dX5_day_60 rfl (lv_at hl 3 rfl) ?_
      refine m_get6 F hi hl29 hK hw dX5_day_61 ?_
      refine lv_iload_n hx hb dX5_day_64 rfl (lv_at hl 0 rfl) ?_
      refine lv_iconst (v := 4) hx hb dX5_day_65 (by decide) ?_
      refine lv_iadd hx hb dX5_day_66 ?_
      refine m_ld6 F hK hw (by rw [show (4 : Int32) = nI 4 from rfl, nI_add]; exact in120 (by omega)) dX5_day_67 ?_
      rw [show (4 : Int32) = nI 4 from rfl, nI_add, cl_nI (show 40 * sn + 4 < 2 ^ 31 by omega)]
      refine (c_m_copy l G Y x ad _ _ _ _ _ _ _ _ _ _ _ _ _ _ _ _ _ hd hz c9 hc9).callV F (cwV 6 hts gX5_day_X5_copy rfl rfl rfl (by decide +kernel) ⟨Nat.le_of_ble_eq_true rfl, Nat.le_of_ble_eq_true rfl⟩) hK hw hA (m_recv hK hw) rfl rfl hl.1 (Nat.le_of_ble_eq_true rfl) dX5_day_68 ⟨Nat.le_of_ble_eq_true rfl, Nat.le_of_ble_eq_true rfl⟩ (fun r_68 u_68 H locs hp_68 hw => ?_)
      have hcp := hp_68
      obtain ⟨sg', ik', cp', ch', ct', rfl, hct⟩ := mCopy_keep hcp
      refine lv_bipush (v := -50) hx hb dX5_day_71 (by decide) ?_
      refine lv_icmp_ne (tgt := 79) hx hb dX5_day_73 (by decide) (fun c_73 => ?_) (fun c_73 => ?_)
      · skip
        obtain ⟨w9, hw9, ew9⟩ := wOK_pos hwa hs3 (by rw [hcs] at c_25; exact c_25)
        refine lv_aload_n hx hb dX5_day_79 rfl (lv_at hl 3 rfl) ?_
        refine m_get7 F hi hl32 hK hw dX5_day_80 ?_
        refine lv_iload_n hx hb dX5_day_83 rfl (lv_at hl 1 rfl) ?_
        refine lv_dup2_11 hx hb dX5_day_84 rfl rfl ?_
        refine m_ld7 F hK hw (nI_isS hs3).in dX5_day_85 ?_
        refine lv_iconst (v := 1) hx hb dX5_day_86 (by decide) ?_
        refine lv_isub hx hb dX5_day_87 ?_
        rw [hcs, ew9, nI_pred]
        refine m_st7 F hK hw (nI_isS hs3).in dX5_day_88 (fun H locs hw => ?_)
        rw [hcs] at hw
        refine lv_iconst (v := 0) hx hb dX5_day_89 (by decide) ?_
        refine lv_istore (lv' := [(4, .int _), (3, .int _), (2, .int _), (1, .int _), (0, .ref _)]) hx hb dX5_day_90 hl (by decide) rfl (fun ls hl => ?_)
        refine W_loop (σ := Nat) 92 (fun n (t : Nat) H locs ls => n = 5 * w9 - t ∧ t ≤ 5 * w9 ∧ wW G A s.heap (mW Y x ad (d, sc, sz, sg', ik', cp', mShift wt (40 * sn) t, upd wa sn (nI w9), ch', ct', 0)) H locs ∧ lv_has ls 5 [(4, .int (nI t)), (3, .int (nI (40 * sn))), (2, .int (nI sn)), (1, .int (nI dn)), (0, .ref x)]) ?_ (n := 5 * w9) (x := 0) ⟨rfl, by omega, by rw [mShift_0]; exact hw, hl⟩
        intro n2 t H locs ls hI ih2
        obtain ⟨hn2, ht, hw, hl⟩ := hI
        refine lv_iload hx hb dX5_day_92 (lv_at hl 0 rfl) ?_
        refine lv_iconst (v := 5) hx hb dX5_day_94 (by decide) ?_
        refine lv_aload_n hx hb dX5_day_95 rfl (lv_at hl 4 rfl) ?_
        refine m_get7 F hi hl32 hK hw dX5_day_96 ?_
        refine lv_iload_n hx hb dX5_day_99 rfl (lv_at hl 2 rfl) ?_
        refine m_ld7 F hK hw (nI_isS hs3).in dX5_day_100 ?_
        rw [hcs, pk_us]
        refine lv_imul hx hb dX5_day_101 ?_
        rw [mul5]
        refine lv_icmp_ge (tgt := 131) hx hb dX5_day_102 (by decide) (fun c_102 => ?_) (fun c_102 => ?_)
        · skip
          have htn : t = 5 * w9 := by
            have := le_of_c (by omega) (by omega) c_102
            omega
          subst htn
          refine lv_iinc (lv' := [(1, .int _), (4, .int _), (3, .int _), (2, .int _), (0, .ref _)]) hx hb dX5_day_131 hl (k := 3) rfl rfl (by decide) rfl (fun ls hl => ?_)
          refine lv_iinc (lv' := [(2, .int _), (1, .int _), (4, .int _), (3, .int _), (0, .ref _)]) hx hb dX5_day_134 hl (k := 3) rfl rfl (by decide) rfl (fun ls hl => ?_)
          refine lv_goto (tgt := 9) hx hb dX5_day_137 (by decide) ?_
          exact ih _ (sn + 1, dn + 1, (d, sc, sz, sg', ik', cp', mShift wt (40 * sn) (5 * w9), upd wa sn (nI w9), ch', ct', 0)) _ _ _ (by omega) ⟨rfl, by omega, ⟨_, dn, 1, hN, Or.inr ⟨by rw [cl_nI (by omega)] at c_25; exact c_25, _, _, hcp, Or.inr ⟨c_73, rfl, w9, ew9, hw9, rfl⟩⟩, rfl⟩, ⟨hd, hz, wOK_dec hwa hw9, rfl, c0_next (c0 := c00 + sn) hc9 hc9b (by omega) hct⟩, hw, by
            have hl := lv_sub hl [0, 1, 4] rfl
            rw [nI_succ, nI_succ]; exact hl⟩
        · skip
          have htn : t < 5 * w9 := lt_of_c (by omega) (by omega) c_102
          refine lv_aload_n hx hb dX5_day_105 rfl (lv_at hl 4 rfl) ?_
          refine m_get6 F hi hl29 hK hw dX5_day_106 ?_
          refine lv_iload_n hx hb dX5_day_109 rfl (lv_at hl 1 rfl) ?_
          refine lv_iload hx hb dX5_day_110 (lv_at hl 0 rfl) ?_
          refine lv_iadd hx hb dX5_day_112 ?_
          refine lv_aload_n hx hb dX5_day_113 rfl (lv_at hl 4 rfl) ?_
          refine m_get6 F hi hl29 hK hw dX5_day_114 ?_
          refine lv_iload_n hx hb dX5_day_117 rfl (lv_at hl 1 rfl) ?_
          refine lv_iload hx hb dX5_day_118 (lv_at hl 0 rfl) ?_
          refine lv_iadd hx hb dX5_day_120 ?_
          refine lv_iconst (v := 5) hx hb dX5_day_121 (by decide) ?_
          refine lv_iadd hx hb dX5_day_122 ?_
          refine m_ld6 F hK hw (by rw [nI_add, show (5 : Int32) = nI 5 from rfl, nI_add]; exact in120 (by omega)) dX5_day_123 ?_
          rw [nI_add, show (5 : Int32) = nI 5 from rfl, nI_add, cl_nI (show 40 * sn + t + 5 < 2 ^ 31 by omega)]
          refine m_st6 F hK hw (in120 (by omega)) dX5_day_124 (fun H locs hw => ?_)
          rw [cl_nI (show 40 * sn + t < 2 ^ 31 by omega)] at hw
          refine lv_iinc (lv' := [(4, .int _), (3, .int _), (2, .int _), (1, .int _), (0, .ref _)]) hx hb dX5_day_125 hl (k := 0) rfl rfl (by decide) rfl (fun ls hl => ?_)
          refine lv_goto (tgt := 92) hx hb dX5_day_128 (by decide) ?_
          exact ih2 _ (t + 1) _ _ _ (by omega) ⟨rfl, by omega, by rw [← mShift_s, ← mShift_at wt (40 * sn) t]; exact hw, by rw [nI_succ]; exact hl⟩
      · skip
        refine lv_goto (tgt := 134) hx hb dX5_day_76 (by decide) ?_
        refine lv_iinc (lv' := [(2, .int _), (3, .int _), (1, .int _), (0, .ref _)]) hx hb dX5_day_134 hl (k := 1) rfl rfl (by decide) rfl (fun ls hl => ?_)
        refine lv_goto (tgt := 9) hx hb dX5_day_137 (by decide) ?_
        exact ih _ (sn + 1, dn + 0, (d, sc, sz, sg', ik', cp', wt, wa, ch', ct', 0)) _ _ _ (by omega) ⟨rfl, by omega, ⟨_, dn, 0, hN, Or.inr ⟨by rw [cl_nI (by omega)] at c_25; exact c_25, _, _, hcp, Or.inl ⟨c_73, rfl, rfl⟩⟩, rfl⟩, ⟨hd, hz, hwa, rfl, c0_next (c0 := c00 + sn) hc9 hc9b (by omega) hct⟩, hw, by
          have hl := lv_sub hl [0, 2, 3] rfl
          rw [nI_succ]; exact hl⟩
