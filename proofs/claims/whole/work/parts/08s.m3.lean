set_option maxHeartbeats 4000000 in
set_option maxRecDepth 100000 in
theorem c_m_bind (l : Launch) (G : va_G) (Y : Nat → ClassId) (x : Nat) (ad : Nat → Nat) (d sc sz : Nat → Int32) (sg : Nat → Int64) (ik cp wt wa ch ct : Nat → Int32) (th : Int32) (p0 : Int32) (p1 : Int32) (p2 : Int32)  : ctI l G Y (mW Y x ad) yX5_bind wsX5_bind ({ frames := 1, cells := 0, slots := 0, locals := 60 }) [.ref x, .int p0, .int p1, .int p2] (d, sc, sz, sg, ik, cp, wt, wa, ch, ct, th) (fun r u' => mBindP (d, sc, sz, sg, ik, cp, wt, wa, ch, ct, th) p0 p1 p2 r u') := by
  refine ctI.of (cc := cX5_bind) (maxL := 6) (ret := (some .int)) (by decide) rfl (Nat.le_of_ble_eq_true rfl) ?_
  intro A p e s m below meth c ls hB
  obtain ⟨F, hr, hlocks, hnm, hK, hA, hw, hl⟩ := hB
  obtain ⟨hx, hb, hml, hown, hts⟩ := id F
  have hl : lv_has ls 6 [(0, .ref x), (1, .int p0), (2, .int p1), (3, .int p2)] := hl
  have hi : ∀ w ∈ wsX50, w ∈ wsX5_bind := by decide +kernel
  have hl7 : Cond.fieldLink RX5 7 "ScriptoriumModel" "desk" "[I" ∈ wsX5_bind := by decide +kernel
  have hl13 : Cond.fieldLink RX5 13 "ScriptoriumModel" "script" "[I" ∈ wsX5_bind := by decide +kernel
  have hl16 : Cond.fieldLink RX5 16 "ScriptoriumModel" "size" "[I" ∈ wsX5_bind := by decide +kernel
  have hl19 : Cond.fieldLink RX5 19 "ScriptoriumModel" "sign" "[J" ∈ wsX5_bind := by decide +kernel
  have hl38 : Cond.fieldLink RX5 38 "ScriptoriumModel" "counts" "[I" ∈ wsX5_bind := by decide +kernel
  have hl41 : Cond.fieldLink RX5 41 "ScriptoriumModel" "thrown" "I" ∈ wsX5_bind := by decide +kernel
  refine lv_aload_n hx hb dX5_bind_0 rfl (lv_at hl 0 rfl) ?_
  refine lv_iconst (v := 0) hx hb dX5_bind_1 (by decide) ?_
  refine m_put10 F hi hl41 hK hw dX5_bind_2 (fun H locs hw => ?_)
  refine lv_iload_n hx hb dX5_bind_5 rfl (lv_at hl 1 rfl) ?_
  refine (c_m_isDesk l G Y x ad _ _ _ _ _ _ _ _ _ _ _ _).callS F (va_cwS 1 hts gX5_bind_X5_isDesk rfl rfl rfl (by decide +kernel) ⟨Nat.le_of_ble_eq_true rfl, Nat.le_of_ble_eq_true rfl⟩) hK hw hA rfl rfl hl.1 (Nat.le_of_ble_eq_true rfl) dX5_bind_6 ⟨Nat.le_of_ble_eq_true rfl, Nat.le_of_ble_eq_true rfl⟩ (fun r_6 u_6 H locs hp_6 hw => ?_)
  obtain ⟨rfl, ⟨hq_6, rfl⟩ | ⟨hq_6, rfl⟩⟩ := hp_6
  · skip
    refine lv_if_eq (tgt := 32) hx hb dX5_bind_9 (by decide) (fun c_9 => ?_) (fun c_9 => ?_)
    · exact absurd c_9 (by decide)
    · skip
      refine lv_iload_n hx hb dX5_bind_12 rfl (lv_at hl 2 rfl) ?_
      refine lv_if_lt (tgt := 32) hx hb dX5_bind_13 (by decide) (fun c_13 => ?_) (fun c_13 => ?_)
      · skip
        refine lv_bipush (v := -99) hx hb dX5_bind_32 (by decide) ?_
        exact ct_iret hx hb hr (vp_nar_int _) hlocks hK hw dX5_bind_34 (Nat.le_of_ble_eq_true rfl) (Nat.le_of_ble_eq_true rfl) (Or.inr ⟨fun h => h.2.1 c_13, rfl, rfl⟩)
      · skip
        refine lv_iload_n hx hb dX5_bind_16 rfl (lv_at hl 2 rfl) ?_
        refine lv_bipush (v := 8) hx hb dX5_bind_17 (by decide) ?_
        refine lv_icmp_gt (tgt := 32) hx hb dX5_bind_19 (by decide) (fun c_19 => ?_) (fun c_19 => ?_)
        · skip
          refine lv_bipush (v := -99) hx hb dX5_bind_32 (by decide) ?_
          exact ct_iret hx hb hr (vp_nar_int _) hlocks hK hw dX5_bind_34 (Nat.le_of_ble_eq_true rfl) (Nat.le_of_ble_eq_true rfl) (Or.inr ⟨fun h => h.2.2.1 c_19, rfl, rfl⟩)
        · skip
          refine lv_iload_n hx hb dX5_bind_22 rfl (lv_at hl 3 rfl) ?_
          refine lv_if_lt (tgt := 32) hx hb dX5_bind_23 (by decide) (fun c_23 => ?_) (fun c_23 => ?_)
          · skip
            refine lv_bipush (v := -99) hx hb dX5_bind_32 (by decide) ?_
            exact ct_iret hx hb hr (vp_nar_int _) hlocks hK hw dX5_bind_34 (Nat.le_of_ble_eq_true rfl) (Nat.le_of_ble_eq_true rfl) (Or.inr ⟨fun h => h.2.2.2.1 c_23, rfl, rfl⟩)
          · skip
            refine lv_iload_n hx hb dX5_bind_26 rfl (lv_at hl 3 rfl) ?_
            refine lv_bipush (v := 40) hx hb dX5_bind_27 (by decide) ?_
            refine lv_icmp_le (tgt := 35) hx hb dX5_bind_29 (by decide) (fun c_29 => ?_) (fun c_29 => ?_)
            · skip
              refine lv_iconst (v := 0) hx hb dX5_bind_35 (by decide) ?_
              refine lv_istore (lv' := [(4, .int _), (0, .ref _), (1, .int _), (2, .int _), (3, .int _)]) hx hb dX5_bind_36 hl (by decide) rfl (fun ls hl => ?_)
              refine W_loop (σ := Nat) 38 (fun n (k : Nat) H locs ls => n = 6 - k ∧ k ≤ 6 ∧ (∀ j, j < k → mUsed d (nI j) p0) ∧ wW G A s.heap (mW Y x ad (d, sc, sz, sg, ik, cp, wt, wa, ch, ct, 0)) H locs ∧ lv_has ls 6 [(4, .int (nI k)), (0, .ref x), (1, .int p0), (2, .int p1), (3, .int p2)]) ?_ (n := 6) (x := 0) ⟨rfl, by omega, lt_0, hw, hl⟩
              intro n k H locs ls hI ih
              obtain ⟨hn, hk, hall, hw, hl⟩ := hI
              have hk6 : k < 6 := by
                rcases Nat.lt_or_ge k 6 with q | q
                · exact q
                · exact (mPig hq_6 (fun j hj => hall j (by omega))).elim
              refine lv_aload_n hx hb dX5_bind_38 rfl (lv_at hl 1 rfl) ?_
              refine lv_iload hx hb dX5_bind_39 (lv_at hl 0 rfl) ?_
              refine lv_iload_n hx hb dX5_bind_41 rfl (lv_at hl 2 rfl) ?_
              refine (c_m_isUsed l G Y x ad _ _ _ _ _ _ _ _ _ _ _ _ _).callV F (cwV 2 hts gX5_bind_X5_isUsed rfl rfl rfl (by decide +kernel) ⟨Nat.le_of_ble_eq_true rfl, Nat.le_of_ble_eq_true rfl⟩) hK hw hA (m_recv hK hw) rfl rfl hl.1 (Nat.le_of_ble_eq_true rfl) dX5_bind_42 ⟨Nat.le_of_ble_eq_true rfl, Nat.le_of_ble_eq_true rfl⟩ (fun r_42 u_42 H locs hp_42 hw => ?_)
              obtain ⟨rfl, ⟨hq_42, rfl⟩ | ⟨hq_42, rfl⟩⟩ := hp_42
              · skip
                refine lv_if_eq (tgt := 54) hx hb dX5_bind_45 (by decide) (fun c_45 => ?_) (fun c_45 => ?_)
                · exact absurd c_45 (by decide)
                · skip
                  refine lv_iinc (lv' := [(4, .int _), (0, .ref _), (1, .int _), (2, .int _), (3, .int _)]) hx hb dX5_bind_48 hl (k := 0) rfl rfl (by decide) rfl (fun ls hl => ?_)
                  refine lv_goto (tgt := 38) hx hb dX5_bind_51 (by decide) ?_
                  exact ih _ (k + 1) _ _ _ (by omega) ⟨rfl, by omega, lt_s hall hq_42, hw, by rw [nI_succ]; exact hl⟩
              · skip
                refine lv_if_eq (tgt := 54) hx hb dX5_bind_45 (by decide) (fun c_45 => ?_) (fun c_45 => ?_)
                · skip
                  refine lv_aload_n hx hb dX5_bind_54 rfl (lv_at hl 1 rfl) ?_
                  refine m_get0 F hi hl7 hK hw dX5_bind_55 ?_
                  refine lv_iload_n hx hb dX5_bind_58 rfl (lv_at hl 2 rfl) ?_
                  refine lv_iload hx hb dX5_bind_59 (lv_at hl 0 rfl) ?_
                  refine m_st0 F hK hw hq_6.in dX5_bind_61 (fun H locs hw => ?_)
                  refine lv_aload_n hx hb dX5_bind_62 rfl (lv_at hl 1 rfl) ?_
                  refine m_get1 F hi hl13 hK hw dX5_bind_63 ?_
                  refine lv_iload hx hb dX5_bind_66 (lv_at hl 0 rfl) ?_
                  refine lv_iload_n hx hb dX5_bind_68 rfl (lv_at hl 3 rfl) ?_
                  refine m_st1 F hK hw (vp_in_nI hk6 (by decide)) dX5_bind_69 (fun H locs hw => ?_)
                  refine lv_aload_n hx hb dX5_bind_70 rfl (lv_at hl 1 rfl) ?_
                  refine m_get2 F hi hl16 hK hw dX5_bind_71 ?_
                  refine lv_iload hx hb dX5_bind_74 (lv_at hl 0 rfl) ?_
                  refine lv_iload_n hx hb dX5_bind_76 rfl (lv_at hl 4 rfl) ?_
                  refine m_st2 F hK hw (vp_in_nI hk6 (by decide)) dX5_bind_77 (fun H locs hw => ?_)
                  refine lv_iconst (v := 0) hx hb dX5_bind_78 (by decide) ?_
                  refine lv_istore (lv' := [(5, .int _), (4, .int _), (0, .ref _), (1, .int _), (2, .int _), (3, .int _)]) hx hb dX5_bind_79 hl (by decide) rfl (fun ls hl => ?_)
                  refine W_loop (σ := Nat) 81 (fun n (t : Nat) H locs ls => n = 40 - t ∧ t ≤ 40 ∧ wW G A s.heap (mW Y x ad (upd d (cl p0) (nI k), upd sc (cl (nI k)) p1, upd sz (cl (nI k)) p2, mZero sg k t, ik, cp, wt, wa, ch, ct, 0)) H locs ∧ lv_has ls 6 [(5, .int (nI t)), (4, .int (nI k)), (0, .ref x), (1, .int p0), (2, .int p1), (3, .int p2)]) ?_ (n := 40) (x := 0) ⟨rfl, by omega, by rw [mZero_0]; exact hw, hl⟩
                  intro n t H locs ls hI ih2
                  obtain ⟨hn2, ht, hw, hl⟩ := hI
                  refine lv_iload hx hb dX5_bind_81 (lv_at hl 0 rfl) ?_
                  refine lv_bipush (v := 40) hx hb dX5_bind_83 (by decide) ?_
                  refine lv_icmp_ge (tgt := 108) hx hb dX5_bind_85 (by decide) (fun c_85 => ?_) (fun c_85 => ?_)
                  · skip
                    have ht40 : t = 40 := by
                      have := le_of_c (a := 40) (by decide) (by omega) c_85
                      omega
                    refine lv_aload_n hx hb dX5_bind_108 rfl (lv_at hl 2 rfl) ?_
                    refine m_get9 F hi hl38 hK hw dX5_bind_109 ?_
                    refine lv_bipush (v := 7) hx hb dX5_bind_112 (by decide) ?_
                    refine lv_dup2_11 hx hb dX5_bind_114 rfl rfl ?_
                    refine m_ld9 F hK hw (vp_in_nI (n := 7) (by decide) (by decide)) dX5_bind_115 ?_
                    refine lv_iconst (v := 1) hx hb dX5_bind_116 (by decide) ?_
                    refine lv_iadd hx hb dX5_bind_117 ?_
                    refine m_st9 F hK hw (vp_in_nI (n := 7) (by decide) (by decide)) dX5_bind_118 (fun H locs hw => ?_)
                    refine lv_iconst (v := 0) hx hb dX5_bind_119 (by decide) ?_
                    exact ct_iret hx hb hr (vp_nar_int _) hlocks hK hw dX5_bind_120 (Nat.le_of_ble_eq_true rfl) (Nat.le_of_ble_eq_true rfl) (Or.inl ⟨⟨hq_6, c_13, c_19, c_23, c_29⟩, rfl, k, hk6, hq_42, by rw [ht40, cl_nI (by omega)]; rfl⟩)
                  · skip
                    have ht40 : t < 40 := lt_of_c (a := 40) (by decide) (by omega) c_85
                    refine lv_aload_n hx hb dX5_bind_88 rfl (lv_at hl 2 rfl) ?_
                    refine m_get3 F hi hl19 hK hw dX5_bind_89 ?_
                    refine lv_bipush (v := 40) hx hb dX5_bind_92 (by decide) ?_
                    refine lv_iload hx hb dX5_bind_94 (lv_at hl 1 rfl) ?_
                    refine lv_imul hx hb dX5_bind_96 ?_
                    refine lv_iload hx hb dX5_bind_97 (lv_at hl 0 rfl) ?_
                    refine lv_iadd hx hb dX5_bind_99 ?_
                    refine lv_lconst (v := 0) hx hb dX5_bind_100 (by decide) ?_
                    refine m_st3 F hK hw (in40 hk6 ht40) dX5_bind_101 (fun H locs hw => ?_)
                    refine lv_iinc (lv' := [(5, .int _), (4, .int _), (0, .ref _), (1, .int _), (2, .int _), (3, .int _)]) hx hb dX5_bind_102 hl (k := 0) rfl rfl (by decide) rfl (fun ls hl => ?_)
                    refine lv_goto (tgt := 81) hx hb dX5_bind_105 (by decide) ?_
                    exact ih2 _ (t + 1) _ _ _ (by omega) ⟨rfl, by omega, by rw [← mZero_s, ← cl40 hk6 ht40]; exact hw, by rw [nI_succ]; exact hl⟩
                · exact absurd rfl c_45
            · skip
              refine lv_bipush (v := -99) hx hb dX5_bind_32 (by decide) ?_
              exact ct_iret hx hb hr (vp_nar_int _) hlocks hK hw dX5_bind_34 (Nat.le_of_ble_eq_true rfl) (Nat.le_of_ble_eq_true rfl) (Or.inr ⟨fun h => c_29 h.2.2.2.2, rfl, rfl⟩)
  · skip
    refine lv_if_eq (tgt := 32) hx hb dX5_bind_9 (by decide) (fun c_9 => ?_) (fun c_9 => ?_)
    · skip
      refine lv_bipush (v := -99) hx hb dX5_bind_32 (by decide) ?_
      exact ct_iret hx hb hr (vp_nar_int _) hlocks hK hw dX5_bind_34 (Nat.le_of_ble_eq_true rfl) (Nat.le_of_ble_eq_true rfl) (Or.inr ⟨fun h => hq_6 h.1, rfl, rfl⟩)
    · exact absurd rfl c_9

set_option maxHeartbeats 4000000 in
set_option maxRecDepth 100000 in
theorem c_m_differ (l : Launch) (G : va_G) (Y : Nat → ClassId) (x : Nat) (ad : Nat → Nat) (d sc sz : Nat → Int32) (sg : Nat → Int64) (ik cp wt wa ch ct : Nat → Int32) (th : Int32) (p0 : Int32) (p1 : Int32) (hd : dOK d) (hz : zOK sz) : ctI l G Y (mW Y x ad) yX5_differ wsX5_differ ({ frames := 1, cells := 0, slots := 0, locals := 60 }) [.ref x, .int p0, .int p1] (d, sc, sz, sg, ik, cp, wt, wa, ch, ct, th) (fun r u' => mDifferP (d, sc, sz, sg, ik, cp, wt, wa, ch, ct, th) p0 p1 r u') := by
  refine ctI.of (cc := cX5_differ) (maxL := 8) (ret := (some .int)) (by decide) rfl (Nat.le_of_ble_eq_true rfl) ?_
  intro A p e s m below meth c ls hB
  obtain ⟨F, hr, hlocks, hnm, hK, hA, hw, hl⟩ := hB
  obtain ⟨hx, hb, hml, hown, hts⟩ := id F
  have hl : lv_has ls 8 [(0, .ref x), (1, .int p0), (2, .int p1)] := hl
  have hi : ∀ w ∈ wsX50, w ∈ wsX5_differ := by decide +kernel
  have hl7 : Cond.fieldLink RX5 7 "ScriptoriumModel" "desk" "[I" ∈ wsX5_differ := by decide +kernel
  have hl16 : Cond.fieldLink RX5 16 "ScriptoriumModel" "size" "[I" ∈ wsX5_differ := by decide +kernel
  have hl19 : Cond.fieldLink RX5 19 "ScriptoriumModel" "sign" "[J" ∈ wsX5_differ := by decide +kernel
  have hl41 : Cond.fieldLink RX5 41 "ScriptoriumModel" "thrown" "I" ∈ wsX5_differ := by decide +kernel
  refine lv_aload_n hx hb dX5_differ_0 rfl (lv_at hl 0 rfl) ?_
  refine lv_iconst (v := 0) hx hb dX5_differ_1 (by decide) ?_
  refine m_put10 F hi hl41 hK hw dX5_differ_2 (fun H locs hw => ?_)
  refine lv_iload_n hx hb dX5_differ_5 rfl (lv_at hl 1 rfl) ?_
  refine (c_m_isDesk l G Y x ad _ _ _ _ _ _ _ _ _ _ _ _).callS F (va_cwS 1 hts gX5_differ_X5_isDesk rfl rfl rfl (by decide +kernel) ⟨Nat.le_of_ble_eq_true rfl, Nat.le_of_ble_eq_true rfl⟩) hK hw hA rfl rfl hl.1 (Nat.le_of_ble_eq_true rfl) dX5_differ_6 ⟨Nat.le_of_ble_eq_true rfl, Nat.le_of_ble_eq_true rfl⟩ (fun r_6 u_6 H locs hp_6 hw => ?_)
  obtain ⟨rfl, ⟨hq_6, rfl⟩ | ⟨hq_6, rfl⟩⟩ := hp_6
  · skip
    refine lv_if_eq (tgt := 19) hx hb dX5_differ_9 (by decide) (fun c_9 => ?_) (fun c_9 => ?_)
    · exact absurd c_9 (by decide)
    · skip
      refine lv_iload_n hx hb dX5_differ_12 rfl (lv_at hl 2 rfl) ?_
      refine (c_m_isDesk l G Y x ad _ _ _ _ _ _ _ _ _ _ _ _).callS F (va_cwS 1 hts gX5_differ_X5_isDesk rfl rfl rfl (by decide +kernel) ⟨Nat.le_of_ble_eq_true rfl, Nat.le_of_ble_eq_true rfl⟩) hK hw hA rfl rfl hl.1 (Nat.le_of_ble_eq_true rfl) dX5_differ_13 ⟨Nat.le_of_ble_eq_true rfl, Nat.le_of_ble_eq_true rfl⟩ (fun r_13 u_13 H locs hp_13 hw => ?_)
      obtain ⟨rfl, ⟨hq_13, rfl⟩ | ⟨hq_13, rfl⟩⟩ := hp_13
      · skip
        refine lv_if_ne (tgt := 22) hx hb dX5_differ_16 (by decide) (fun c_16 => ?_) (fun c_16 => ?_)
        · skip
          refine lv_aload_n hx hb dX5_differ_22 rfl (lv_at hl 0 rfl) ?_
          refine lv_iload_n hx hb dX5_differ_23 rfl (lv_at hl 1 rfl) ?_
          refine lv_iload_n hx hb dX5_differ_24 rfl (lv_at hl 2 rfl) ?_
          refine (c_m_unlike l G Y x ad _ _ _ _ _ _ _ _ _ _ _ _ _ hd hq_6 hq_13).callV F (cwV 2 hts gX5_differ_X5_unlike rfl rfl rfl (by decide +kernel) ⟨Nat.le_of_ble_eq_true rfl, Nat.le_of_ble_eq_true rfl⟩) hK hw hA (m_recv hK hw) rfl rfl hl.1 (Nat.le_of_ble_eq_true rfl) dX5_differ_25 ⟨Nat.le_of_ble_eq_true rfl, Nat.le_of_ble_eq_true rfl⟩ (fun r_25 u_25 H locs hp_25 hw => ?_)
          obtain ⟨rfl, rfl⟩ := hp_25
          refine lv_istore_n (lv' := [(3, .int _), (0, .ref _), (1, .int _), (2, .int _)]) hx hb dX5_differ_28 rfl hl (by decide) rfl (fun ls hl => ?_)
          refine lv_iload_n hx hb dX5_differ_29 rfl (lv_at hl 0 rfl) ?_
          refine lv_if_eq (tgt := 35) hx hb dX5_differ_30 (by decide) (fun c_30 => ?_) (fun c_30 => ?_)
          · skip
            refine lv_aload_n hx hb dX5_differ_35 rfl (lv_at hl 1 rfl) ?_
            refine m_get0 F hi hl7 hK hw dX5_differ_36 ?_
            refine lv_iload_n hx hb dX5_differ_39 rfl (lv_at hl 2 rfl) ?_
            refine m_ld0 F hK hw hq_6.in dX5_differ_40 ?_
            refine lv_topi (fun v9 ev9 => ?_)
            have hu0 := mUnl_0 c_30
            obtain ⟨b1, hb1, eb1⟩ := (hd.at hq_6 hu0.1.1 hu0.2.1.1).nat
            obtain rfl : v9 = nI b1 := ev9.trans eb1
            refine lv_istore (lv' := [(4, .int _), (3, .int _), (0, .ref _), (1, .int _), (2, .int _)]) hx hb dX5_differ_41 hl (by decide) rfl (fun ls hl => ?_)
            refine lv_aload_n hx hb dX5_differ_43 rfl (lv_at hl 2 rfl) ?_
            refine m_get0 F hi hl7 hK hw dX5_differ_44 ?_
            refine lv_iload_n hx hb dX5_differ_47 rfl (lv_at hl 4 rfl) ?_
            refine m_ld0 F hK hw hq_13.in dX5_differ_48 ?_
            refine lv_topi (fun v9 ev9 => ?_)
            obtain ⟨b2, hb2, eb2⟩ := (hd.at hq_13 hu0.1.2 hu0.2.1.2).nat
            obtain rfl : v9 = nI b2 := ev9.trans eb2
            obtain ⟨n1, hn1, en1⟩ := hz b1 hb1
            obtain ⟨n2, hn2, en2⟩ := hz b2 hb2
            have e1 : sz (cl (nI b1)) = nI n1 := by rw [cl_nI (by omega)]; exact en1
            have e2 : sz (cl (nI b2)) = nI n2 := by rw [cl_nI (by omega)]; exact en2
            refine lv_istore (lv' := [(5, .int _), (4, .int _), (3, .int _), (0, .ref _), (1, .int _), (2, .int _)]) hx hb dX5_differ_49 hl (by decide) rfl (fun ls hl => ?_)
            refine lv_aload_n hx hb dX5_differ_51 rfl (lv_at hl 3 rfl) ?_
            refine m_get2 F hi hl16 hK hw dX5_differ_52 ?_
            refine lv_iload hx hb dX5_differ_55 (lv_at hl 1 rfl) ?_
            refine m_ld2 F hK hw (vp_in_nI hb1 (by decide)) dX5_differ_57 ?_
            refine lv_aload_n hx hb dX5_differ_58 rfl (lv_at hl 3 rfl) ?_
            refine m_get2 F hi hl16 hK hw dX5_differ_59 ?_
            refine lv_iload hx hb dX5_differ_62 (lv_at hl 0 rfl) ?_
            refine m_ld2 F hK hw (vp_in_nI hb2 (by decide)) dX5_differ_64 ?_
            refine lv_icmp_ge (tgt := 78) hx hb dX5_differ_65 (by decide) (fun c_65 => ?_) (fun c_65 => ?_)
            · skip
              refine lv_aload_n hx hb dX5_differ_78 rfl (lv_at hl 3 rfl) ?_
              refine m_get2 F hi hl16 hK hw dX5_differ_79 ?_
              refine lv_iload hx hb dX5_differ_82 (lv_at hl 0 rfl) ?_
              refine m_ld2 F hK hw (vp_in_nI hb2 (by decide)) dX5_differ_84 ?_
              refine lv_topi (fun v9 ev9 => ?_)
              obtain ⟨nm, h9, h8, h7⟩ : ∃ nm : Nat, v9 = nI nm ∧ (nm ≤ n1 ∧ nm ≤ n2) ∧ (nm = n1 ∨ nm = n2) := by
                have q := c_65
                rw [e1, e2] at q
                exact ⟨n2, ev9.trans e2, ⟨le_of_c (by omega) (by omega) q, Nat.le_refl _⟩, Or.inr rfl⟩
              subst h9
              refine lv_istore (lv' := [(6, .int _), (5, .int _), (4, .int _), (3, .int _), (0, .ref _), (1, .int _), (2, .int _)]) hx hb dX5_differ_85 hl (by decide) rfl (fun ls hl => ?_)
              refine lv_iconst (v := 0) hx hb dX5_differ_87 (by decide) ?_
              refine lv_istore (lv' := [(7, .int _), (6, .int _), (5, .int _), (4, .int _), (3, .int _), (0, .ref _), (1, .int _), (2, .int _)]) hx hb dX5_differ_88 hl (by decide) rfl (fun ls hl => ?_)
              refine W_loop (σ := Nat) 90 (fun n (t : Nat) H locs ls => n = nm - t ∧ t ≤ nm ∧ (∀ j, j < t → sg (40 * b1 + j) = sg (40 * b2 + j)) ∧ wW G A s.heap (mW Y x ad (d, sc, sz, sg, ik, cp, wt, wa, ch, ct, 0)) H locs ∧ lv_has ls 8 [(7, .int (nI t)), (6, .int (nI nm)), (5, .int (nI b2)), (4, .int (nI b1)), (3, .int (mUnl d sc p0 p1)), (0, .ref x), (1, .int p0), (2, .int p1)]) ?_ (n := nm) (x := 0) ⟨rfl, by omega, lt_0, hw, hl⟩
              intro n t H locs ls hI ih
              obtain ⟨hn, ht, hall, hw, hl⟩ := hI
              refine lv_iload hx hb dX5_differ_90 (lv_at hl 0 rfl) ?_
              refine lv_iload hx hb dX5_differ_92 (lv_at hl 1 rfl) ?_
              refine lv_icmp_ge (tgt := 136) hx hb dX5_differ_94 (by decide) (fun c_94 => ?_) (fun c_94 => ?_)
              · skip
                have htn : t = nm := by
                  have := le_of_c (by omega) (by omega) c_94
                  omega
                refine lv_aload_n hx hb dX5_differ_136 rfl (lv_at hl 5 rfl) ?_
                refine m_get2 F hi hl16 hK hw dX5_differ_137 ?_
                refine lv_iload hx hb dX5_differ_140 (lv_at hl 3 rfl) ?_
                refine m_ld2 F hK hw (vp_in_nI hb1 (by decide)) dX5_differ_142 ?_
                refine lv_aload_n hx hb dX5_differ_143 rfl (lv_at hl 5 rfl) ?_
                refine m_get2 F hi hl16 hK hw dX5_differ_144 ?_
                refine lv_iload hx hb dX5_differ_147 (lv_at hl 2 rfl) ?_
                refine m_ld2 F hK hw (vp_in_nI hb2 (by decide)) dX5_differ_149 ?_
                refine lv_icmp_ne (tgt := 158) hx hb dX5_differ_150 (by decide) (fun c_150 => ?_) (fun c_150 => ?_)
                · skip
                  refine lv_iload hx hb dX5_differ_158 (lv_at hl 1 rfl) ?_
                  exact ct_iret hx hb hr (vp_nar_int _) hlocks hK hw dX5_differ_160 (Nat.le_of_ble_eq_true rfl) (Nat.le_of_ble_eq_true rfl) ⟨rfl, Or.inr (Or.inr ⟨⟨hq_6, hq_13⟩, c_30, b1, b2, n1, n2, hb1, hb2, eb1, eb2, en1, en2, hn1, hn2, Or.inr ⟨fun j h1 h2 => hall j (by omega), by
                      have q : n1 ≠ n2 := fun q => c_150 (by rw [e1, e2, q])
                      rcases h7 with rfl | rfl
                      · exact Or.inr (Or.inl ⟨by omega, rfl⟩)
                      · exact Or.inr (Or.inr ⟨by omega, rfl⟩)⟩⟩)⟩
                · skip
                  refine lv_bipush (v := -60) hx hb dX5_differ_153 (by decide) ?_
                  refine lv_goto (tgt := 160) hx hb dX5_differ_155 (by decide) ?_
                  exact ct_iret hx hb hr (vp_nar_int _) hlocks hK hw dX5_differ_160 (Nat.le_of_ble_eq_true rfl) (Nat.le_of_ble_eq_true rfl) ⟨rfl, Or.inr (Or.inr ⟨⟨hq_6, hq_13⟩, c_30, b1, b2, n1, n2, hb1, hb2, eb1, eb2, en1, en2, hn1, hn2, Or.inr ⟨fun j h1 h2 => hall j (by omega), Or.inl ⟨by have q := c_150; rw [e1, e2] at q; exact (nI_eq (by omega) (by omega)).mp q, rfl⟩⟩⟩)⟩
              · skip
                have htn : t < nm := lt_of_c (by omega) (by omega) c_94
                refine lv_aload_n hx hb dX5_differ_97 rfl (lv_at hl 5 rfl) ?_
                refine m_get3 F hi hl19 hK hw dX5_differ_98 ?_
                refine lv_bipush (v := 40) hx hb dX5_differ_101 (by decide) ?_
                refine lv_iload hx hb dX5_differ_103 (lv_at hl 3 rfl) ?_
                refine lv_imul hx hb dX5_differ_105 ?_
                refine lv_iload hx hb dX5_differ_106 (lv_at hl 0 rfl) ?_
                refine lv_iadd hx hb dX5_differ_108 ?_
                refine m_ld3 F hK hw (in40 hb1 (by omega)) dX5_differ_109 ?_
                refine lv_aload_n hx hb dX5_differ_110 rfl (lv_at hl 5 rfl) ?_
                refine m_get3 F hi hl19 hK hw dX5_differ_111 ?_
                refine lv_bipush (v := 40) hx hb dX5_differ_114 (by decide) ?_
                refine lv_iload hx hb dX5_differ_116 (lv_at hl 2 rfl) ?_
                refine lv_imul hx hb dX5_differ_118 ?_
                refine lv_iload hx hb dX5_differ_119 (lv_at hl 0 rfl) ?_
                refine lv_iadd hx hb dX5_differ_121 ?_
                refine m_ld3 F hK hw (in40 hb2 (by omega)) dX5_differ_122 ?_
                refine W.lcmp hx hb dX5_differ_123 ?_
                rw [cl40 hb1 (show t < 40 by omega), cl40 hb2 (show t < 40 by omega)]
                refine lv_if_eq (tgt := 130) hx hb dX5_differ_124 (by decide) (fun c_124 => ?_) (fun c_124 => ?_)
                · skip
                  refine lv_iinc (lv' := [(7, .int _), (6, .int _), (5, .int _), (4, .int _), (3, .int _), (0, .ref _), (1, .int _), (2, .int _)]) hx hb dX5_differ_130 hl (k := 0) rfl rfl (by decide) rfl (fun ls hl => ?_)
                  refine lv_goto (tgt := 90) hx hb dX5_differ_133 (by decide) ?_
                  exact ih _ (t + 1) _ _ _ (by omega) ⟨rfl, by omega, lt_s hall (lcmp0.mp c_124), hw, by rw [nI_succ]; exact hl⟩
                · skip
                  refine lv_iload hx hb dX5_differ_127 (lv_at hl 0 rfl) ?_
                  exact ct_iret hx hb hr (vp_nar_int _) hlocks hK hw dX5_differ_129 (Nat.le_of_ble_eq_true rfl) (Nat.le_of_ble_eq_true rfl) ⟨rfl, Or.inr (Or.inr ⟨⟨hq_6, hq_13⟩, c_30, b1, b2, n1, n2, hb1, hb2, eb1, eb2, en1, en2, hn1, hn2, Or.inl ⟨t, by omega, by omega, hall, fun q => c_124 (lcmp0.mpr q), rfl⟩⟩)⟩
            · skip
              refine lv_aload_n hx hb dX5_differ_68 rfl (lv_at hl 3 rfl) ?_
              refine m_get2 F hi hl16 hK hw dX5_differ_69 ?_
              refine lv_iload hx hb dX5_differ_72 (lv_at hl 1 rfl) ?_
              refine m_ld2 F hK hw (vp_in_nI hb1 (by decide)) dX5_differ_74 ?_
              refine lv_goto (tgt := 85) hx hb dX5_differ_75 (by decide) ?_
              refine lv_topi (fun v9 ev9 => ?_)
              obtain ⟨nm, h9, h8, h7⟩ : ∃ nm : Nat, v9 = nI nm ∧ (nm ≤ n1 ∧ nm ≤ n2) ∧ (nm = n1 ∨ nm = n2) := by
                have q := c_65
                rw [e1, e2] at q
                have := lt_of_c (by omega) (by omega) q
                exact ⟨n1, ev9.trans e1, ⟨Nat.le_refl _, by omega⟩, Or.inl rfl⟩
              subst h9
              refine lv_istore (lv' := [(6, .int _), (5, .int _), (4, .int _), (3, .int _), (0, .ref _), (1, .int _), (2, .int _)]) hx hb dX5_differ_85 hl (by decide) rfl (fun ls hl => ?_)
              refine lv_iconst (v := 0) hx hb dX5_differ_87 (by decide) ?_
              refine lv_istore (lv' := [(7, .int _), (6, .int _), (5, .int _), (4, .int _), (3, .int _), (0, .ref _), (1, .int _), (2, .int _)]) hx hb dX5_differ_88 hl (by decide) rfl (fun ls hl => ?_)
              refine W_loop (σ := Nat) 90 (fun n (t : Nat) H locs ls => n = nm - t ∧ t ≤ nm ∧ (∀ j, j < t → sg (40 * b1 + j) = sg (40 * b2 + j)) ∧ wW G A s.heap (mW Y x ad (d, sc, sz, sg, ik, cp, wt, wa, ch, ct, 0)) H locs ∧ lv_has ls 8 [(7, .int (nI t)), (6, .int (nI nm)), (5, .int (nI b2)), (4, .int (nI b1)), (3, .int (mUnl d sc p0 p1)), (0, .ref x), (1, .int p0), (2, .int p1)]) ?_ (n := nm) (x := 0) ⟨rfl, by omega, lt_0, hw, hl⟩
              intro n t H locs ls hI ih
              obtain ⟨hn, ht, hall, hw, hl⟩ := hI
              refine lv_iload hx hb dX5_differ_90 (lv_at hl 0 rfl) ?_
              refine lv_iload hx hb dX5_differ_92 (lv_at hl 1 rfl) ?_
              refine lv_icmp_ge (tgt := 136) hx hb dX5_differ_94 (by decide) (fun c_94 => ?_) (fun c_94 => ?_)
              · skip
                have htn : t = nm := by
                  have := le_of_c (by omega) (by omega) c_94
                  omega
                refine lv_aload_n hx hb dX5_differ_136 rfl (lv_at hl 5 rfl) ?_
                refine m_get2 F hi hl16 hK hw dX5_differ_137 ?_
                refine lv_iload hx hb dX5_differ_140 (lv_at hl 3 rfl) ?_
                refine m_ld2 F hK hw (vp_in_nI hb1 (by decide)) dX5_differ_142 ?_
                refine lv_aload_n hx hb dX5_differ_143 rfl (lv_at hl 5 rfl) ?_
                refine m_get2 F hi hl16 hK hw dX5_differ_144 ?_
                refine lv_iload hx hb dX5_differ_147 (lv_at hl 2 rfl) ?_
                refine m_ld2 F hK hw (vp_in_nI hb2 (by decide)) dX5_differ_149 ?_
                refine lv_icmp_ne (tgt := 158) hx hb dX5_differ_150 (by decide) (fun c_150 => ?_) (fun c_150 => ?_)
                · skip
                  refine lv_iload hx hb dX5_differ_158 (lv_at hl 1 rfl) ?_
                  exact ct_iret hx hb hr (vp_nar_int _) hlocks hK hw dX5_differ_160 (Nat.le_of_ble_eq_true rfl) (Nat.le_of_ble_eq_true rfl) ⟨rfl, Or.inr (Or.inr ⟨⟨hq_6, hq_13⟩, c_30, b1, b2, n1, n2, hb1, hb2, eb1, eb2, en1, en2, hn1, hn2, Or.inr ⟨fun j h1 h2 => hall j (by omega), by
                      have q : n1 ≠ n2 := fun q => c_150 (by rw [e1, e2, q])
                      rcases h7 with rfl | rfl
                      · exact Or.inr (Or.inl ⟨by omega, rfl⟩)
                      · exact Or.inr (Or.inr ⟨by omega, rfl⟩)⟩⟩)⟩
                · skip
                  refine lv_bipush (v := -60) hx hb dX5_differ_153 (by decide) ?_
                  refine lv_goto (tgt := 160) hx hb dX5_differ_155 (by decide) ?_
                  exact ct_iret hx hb hr (vp_nar_int _) hlocks hK hw dX5_differ_160 (Nat.le_of_ble_eq_true rfl) (Nat.le_of_ble_eq_true rfl) ⟨rfl, Or.inr (Or.inr ⟨⟨hq_6, hq_13⟩, c_30, b1, b2, n1, n2, hb1, hb2, eb1, eb2, en1, en2, hn1, hn2, Or.inr ⟨fun j h1 h2 => hall j (by omega), Or.inl ⟨by have q := c_150; rw [e1, e2] at q; exact (nI_eq (by omega) (by omega)).mp q, rfl⟩⟩⟩)⟩
              · skip
                have htn : t < nm := lt_of_c (by omega) (by omega) c_94
                refine lv_aload_n hx hb dX5_differ_97 rfl (lv_at hl 5 rfl) ?_
                refine m_get3 F hi hl19 hK hw dX5_differ_98 ?_
                refine lv_bipush (v := 40) hx hb dX5_differ_101 (by decide) ?_
                refine lv_iload hx hb dX5_differ_103 (lv_at hl 3 rfl) ?_
                refine lv_imul hx hb dX5_differ_105 ?_
                refine lv_iload hx hb dX5_differ_106 (lv_at hl 0 rfl) ?_
                refine lv_iadd hx hb dX5_differ_108 ?_
                refine m_ld3 F hK hw (in40 hb1 (by omega)) dX5_differ_109 ?_
                refine lv_aload_n hx hb dX5_differ_110 rfl (lv_at hl 5 rfl) ?_
                refine m_get3 F hi hl19 hK hw dX5_differ_111 ?_
                refine lv_bipush (v := 40) hx hb dX5_differ_114 (by decide) ?_
                refine lv_iload hx hb dX5_differ_116 (lv_at hl 2 rfl) ?_
                refine lv_imul hx hb dX5_differ_118 ?_
                refine lv_iload hx hb dX5_differ_119 (lv_at hl 0 rfl) ?_
                refine lv_iadd hx hb dX5_differ_121 ?_
                refine m_ld3 F hK hw (in40 hb2 (by omega)) dX5_differ_122 ?_
                refine W.lcmp hx hb dX5_differ_123 ?_
                rw [cl40 hb1 (show t < 40 by omega), cl40 hb2 (show t < 40 by omega)]
                refine lv_if_eq (tgt := 130) hx hb dX5_differ_124 (by decide) (fun c_124 => ?_) (fun c_124 => ?_)
                · skip
                  refine lv_iinc (lv' := [(7, .int _), (6, .int _), (5, .int _), (4, .int _), (3, .int _), (0, .ref _), (1, .int _), (2, .int _)]) hx hb dX5_differ_130 hl (k := 0) rfl rfl (by decide) rfl (fun ls hl => ?_)
                  refine lv_goto (tgt := 90) hx hb dX5_differ_133 (by decide) ?_
                  exact ih _ (t + 1) _ _ _ (by omega) ⟨rfl, by omega, lt_s hall (lcmp0.mp c_124), hw, by rw [nI_succ]; exact hl⟩
                · skip
                  refine lv_iload hx hb dX5_differ_127 (lv_at hl 0 rfl) ?_
                  exact ct_iret hx hb hr (vp_nar_int _) hlocks hK hw dX5_differ_129 (Nat.le_of_ble_eq_true rfl) (Nat.le_of_ble_eq_true rfl) ⟨rfl, Or.inr (Or.inr ⟨⟨hq_6, hq_13⟩, c_30, b1, b2, n1, n2, hb1, hb2, eb1, eb2, en1, en2, hn1, hn2, Or.inl ⟨t, by omega, by omega, hall, fun q => c_124 (lcmp0.mpr q), rfl⟩⟩)⟩
          · skip
            refine lv_iload_n hx hb dX5_differ_33 rfl (lv_at hl 0 rfl) ?_
            exact ct_iret hx hb hr (vp_nar_int _) hlocks hK hw dX5_differ_34 (Nat.le_of_ble_eq_true rfl) (Nat.le_of_ble_eq_true rfl) ⟨rfl, Or.inr (Or.inl ⟨⟨hq_6, hq_13⟩, c_30, rfl⟩)⟩
        · exact absurd c_16 (by decide)
      · skip
        refine lv_if_ne (tgt := 22) hx hb dX5_differ_16 (by decide) (fun c_16 => ?_) (fun c_16 => ?_)
        · exact absurd rfl c_16
        · skip
          refine lv_bipush (v := -99) hx hb dX5_differ_19 (by decide) ?_
          exact ct_iret hx hb hr (vp_nar_int _) hlocks hK hw dX5_differ_21 (Nat.le_of_ble_eq_true rfl) (Nat.le_of_ble_eq_true rfl) ⟨rfl, Or.inl ⟨fun h => hq_13 h.2, rfl⟩⟩
  · skip
    refine lv_if_eq (tgt := 19) hx hb dX5_differ_9 (by decide) (fun c_9 => ?_) (fun c_9 => ?_)
    · skip
      refine lv_bipush (v := -99) hx hb dX5_differ_19 (by decide) ?_
      exact ct_iret hx hb hr (vp_nar_int _) hlocks hK hw dX5_differ_21 (Nat.le_of_ble_eq_true rfl) (Nat.le_of_ble_eq_true rfl) ⟨rfl, Or.inl ⟨fun h => hq_6 h.1, rfl⟩⟩
    · exact absurd rfl c_9

set_option maxHeartbeats 4000000 in
set_option maxRecDepth 100000 in
theorem c_m_passes (l : Launch) (G : va_G) (Y : Nat → ClassId) (x : Nat) (ad : Nat → Nat) (d sc sz : Nat → Int32) (sg : Nat → Int64) (ik cp wt wa ch ct : Nat → Int32) (th : Int32) (p0 : Int32) (p1 : Int32) (p2 : Int32) (p3 : Int32) (p4 : Int32) (hd : dOK d) (hz : zOK sz) (h0 : isD p0) (h2 : isD p2) : ctI l G Y (mW Y x ad) yX5_passes wsX5_passes ({ frames := 1, cells := 0, slots := 0, locals := 60 }) [.ref x, .int p0, .int p1, .int p2, .int p3, .int p4] (d, sc, sz, sg, ik, cp, wt, wa, ch, ct, th) (fun r u' => ∃ sg', u' = (d, sc, sz, sg', ik, cp, wt, wa, ch, ct, th) ∧ mPassP d sc sz sg p0 p1 p2 p3 p4 r sg') := by
  refine ctI.of (cc := cX5_passes) (maxL := 13) (ret := (some .int)) (by decide) rfl (Nat.le_of_ble_eq_true rfl) ?_
  intro A p e s m below meth c ls hB
  obtain ⟨F, hr, hlocks, hnm, hK, hA, hw, hl⟩ := hB
  obtain ⟨hx, hb, hml, hown, hts⟩ := id F
  have hl : lv_has ls 13 [(0, .ref x), (1, .int p0), (2, .int p1), (3, .int p2), (4, .int p3), (5, .int p4)] := hl
  have hi : ∀ w ∈ wsX50, w ∈ wsX5_passes := by decide +kernel
  have hl7 : Cond.fieldLink RX5 7 "ScriptoriumModel" "desk" "[I" ∈ wsX5_passes := by decide +kernel
  have hl16 : Cond.fieldLink RX5 16 "ScriptoriumModel" "size" "[I" ∈ wsX5_passes := by decide +kernel
  have hl19 : Cond.fieldLink RX5 19 "ScriptoriumModel" "sign" "[J" ∈ wsX5_passes := by decide +kernel
  refine lv_aload_n hx hb dX5_passes_0 rfl (lv_at hl 0 rfl) ?_
  refine lv_iload_n hx hb dX5_passes_1 rfl (lv_at hl 1 rfl) ?_
  refine lv_iload_n hx hb dX5_passes_2 rfl (lv_at hl 3 rfl) ?_
  refine (c_m_unlike l G Y x ad _ _ _ _ _ _ _ _ _ _ _ _ _ hd h0 h2).callV F (cwV 2 hts gX5_passes_X5_unlike rfl rfl rfl (by decide +kernel) ⟨Nat.le_of_ble_eq_true rfl, Nat.le_of_ble_eq_true rfl⟩) hK hw hA (m_recv hK hw) rfl rfl hl.1 (Nat.le_of_ble_eq_true rfl) dX5_passes_3 ⟨Nat.le_of_ble_eq_true rfl, Nat.le_of_ble_eq_true rfl⟩ (fun r_3 u_3 H locs hp_3 hw => ?_)
  obtain ⟨rfl, rfl⟩ := hp_3
  refine lv_istore (lv' := [(6, .int _), (0, .ref _), (1, .int _), (2, .int _), (3, .int _), (4, .int _), (5, .int _)]) hx hb dX5_passes_6 hl (by decide) rfl (fun ls hl => ?_)
  refine lv_iload hx hb dX5_passes_8 (lv_at hl 0 rfl) ?_
  refine lv_if_eq (tgt := 16) hx hb dX5_passes_10 (by decide) (fun c_10 => ?_) (fun c_10 => ?_)
  · skip
    refine lv_aload_n hx hb dX5_passes_16 rfl (lv_at hl 1 rfl) ?_
    refine m_get0 F hi hl7 hK hw dX5_passes_17 ?_
    refine lv_iload_n hx hb dX5_passes_20 rfl (lv_at hl 2 rfl) ?_
    refine m_ld0 F hK hw h0.in dX5_passes_21 ?_
    refine lv_topi (fun v9 ev9 => ?_)
    have hu0 := mUnl_0 c_10
    obtain ⟨bf, hbf, ebf⟩ := (hd.at h0 hu0.1.1 hu0.2.1.1).nat
    obtain rfl : v9 = nI bf := ev9.trans ebf
    refine lv_istore (lv' := [(7, .int _), (6, .int _), (0, .ref _), (1, .int _), (2, .int _), (3, .int _), (4, .int _), (5, .int _)]) hx hb dX5_passes_22 hl (by decide) rfl (fun ls hl => ?_)
    refine lv_aload_n hx hb dX5_passes_24 rfl (lv_at hl 2 rfl) ?_
    refine m_get0 F hi hl7 hK hw dX5_passes_25 ?_
    refine lv_iload_n hx hb dX5_passes_28 rfl (lv_at hl 5 rfl) ?_
    refine m_ld0 F hK hw h2.in dX5_passes_29 ?_
    refine lv_topi (fun v9 ev9 => ?_)
    obtain ⟨bt, hbt, ebt⟩ := (hd.at h2 hu0.1.2 hu0.2.1.2).nat
    obtain rfl : v9 = nI bt := ev9.trans ebt
    obtain ⟨nf, hnf, enf⟩ := hz bf hbf
    obtain ⟨nt, hnt, ent⟩ := hz bt hbt
    have e1 : sz (cl (nI bf)) = nI nf := by rw [cl_nI (by omega)]; exact enf
    have e2 : sz (cl (nI bt)) = nI nt := by rw [cl_nI (by omega)]; exact ent
    have e3 : sz (cl (d (cl p0))) = sz (cl (nI bf)) := by rw [ebf]
    have e4 : sz (cl (d (cl p2))) = sz (cl (nI bt)) := by rw [ebt]
    refine lv_istore (lv' := [(8, .int _), (7, .int _), (6, .int _), (0, .ref _), (1, .int _), (2, .int _), (3, .int _), (4, .int _), (5, .int _)]) hx hb dX5_passes_30 hl (by decide) rfl (fun ls hl => ?_)
    refine lv_iload_n hx hb dX5_passes_32 rfl (lv_at hl 5 rfl) ?_
    refine lv_if_lt (tgt := 99) hx hb dX5_passes_33 (by decide) (fun c_33 => ?_) (fun c_33 => ?_)
    · skip
      refine lv_bipush (v := -3) hx hb dX5_passes_99 (by decide) ?_
      exact ct_iret hx hb hr (vp_nar_int _) hlocks hK hw dX5_passes_101 (Nat.le_of_ble_eq_true rfl) (Nat.le_of_ble_eq_true rfl) ⟨_, rfl, Or.inr (Or.inl ⟨c_10, by rw [e3, e4]; exact fun h => h.1 c_33, rfl, rfl⟩)⟩
    · skip
      refine lv_iload hx hb dX5_passes_36 (lv_at hl 7 rfl) ?_
      refine lv_if_lt (tgt := 99) hx hb dX5_passes_38 (by decide) (fun c_38 => ?_) (fun c_38 => ?_)
      · skip
        refine lv_bipush (v := -3) hx hb dX5_passes_99 (by decide) ?_
        exact ct_iret hx hb hr (vp_nar_int _) hlocks hK hw dX5_passes_101 (Nat.le_of_ble_eq_true rfl) (Nat.le_of_ble_eq_true rfl) ⟨_, rfl, Or.inr (Or.inl ⟨c_10, by rw [e3, e4]; exact fun h => h.2.1 c_38, rfl, rfl⟩)⟩
      · skip
        refine lv_iload hx hb dX5_passes_41 (lv_at hl 8 rfl) ?_
        refine lv_if_lt (tgt := 99) hx hb dX5_passes_43 (by decide) (fun c_43 => ?_) (fun c_43 => ?_)
        · skip
          refine lv_bipush (v := -3) hx hb dX5_passes_99 (by decide) ?_
          exact ct_iret hx hb hr (vp_nar_int _) hlocks hK hw dX5_passes_101 (Nat.le_of_ble_eq_true rfl) (Nat.le_of_ble_eq_true rfl) ⟨_, rfl, Or.inr (Or.inl ⟨c_10, by rw [e3, e4]; exact fun h => h.2.2.1 c_43, rfl, rfl⟩)⟩
        · skip
          refine lv_iload hx hb dX5_passes_46 (lv_at hl 8 rfl) ?_
          refine lv_aload_n hx hb dX5_passes_48 rfl (lv_at hl 3 rfl) ?_
          refine m_get2 F hi hl16 hK hw dX5_passes_49 ?_
          refine lv_iload hx hb dX5_passes_52 (lv_at hl 1 rfl) ?_
          refine m_ld2 F hK hw (vp_in_nI hbf (by decide)) dX5_passes_54 ?_
          refine lv_icmp_gt (tgt := 99) hx hb dX5_passes_55 (by decide) (fun c_55 => ?_) (fun c_55 => ?_)
          · skip
            refine lv_bipush (v := -3) hx hb dX5_passes_99 (by decide) ?_
            exact ct_iret hx hb hr (vp_nar_int _) hlocks hK hw dX5_passes_101 (Nat.le_of_ble_eq_true rfl) (Nat.le_of_ble_eq_true rfl) ⟨_, rfl, Or.inr (Or.inl ⟨c_10, by rw [e3, e4]; exact fun h => h.2.2.2.1 c_55, rfl, rfl⟩)⟩
          · skip
            refine lv_iload hx hb dX5_passes_58 (lv_at hl 8 rfl) ?_
            refine lv_aload_n hx hb dX5_passes_60 rfl (lv_at hl 3 rfl) ?_
            refine m_get2 F hi hl16 hK hw dX5_passes_61 ?_
            refine lv_iload hx hb dX5_passes_64 (lv_at hl 0 rfl) ?_
            refine m_ld2 F hK hw (vp_in_nI hbt (by decide)) dX5_passes_66 ?_
            refine lv_icmp_gt (tgt := 99) hx hb dX5_passes_67 (by decide) (fun c_67 => ?_) (fun c_67 => ?_)
            · skip
              refine lv_bipush (v := -3) hx hb dX5_passes_99 (by decide) ?_
              exact ct_iret hx hb hr (vp_nar_int _) hlocks hK hw dX5_passes_101 (Nat.le_of_ble_eq_true rfl) (Nat.le_of_ble_eq_true rfl) ⟨_, rfl, Or.inr (Or.inl ⟨c_10, by rw [e3, e4]; exact fun h => h.2.2.2.2.1 c_67, rfl, rfl⟩)⟩
            · skip
              refine lv_iload_n hx hb dX5_passes_70 rfl (lv_at hl 5 rfl) ?_
              refine lv_aload_n hx hb dX5_passes_71 rfl (lv_at hl 3 rfl) ?_
              refine m_get2 F hi hl16 hK hw dX5_passes_72 ?_
              refine lv_iload hx hb dX5_passes_75 (lv_at hl 1 rfl) ?_
              refine m_ld2 F hK hw (vp_in_nI hbf (by decide)) dX5_passes_77 ?_
              refine lv_iload hx hb dX5_passes_78 (lv_at hl 8 rfl) ?_
              refine lv_isub hx hb dX5_passes_80 ?_
              refine lv_icmp_gt (tgt := 99) hx hb dX5_passes_81 (by decide) (fun c_81 => ?_) (fun c_81 => ?_)
              · skip
                refine lv_bipush (v := -3) hx hb dX5_passes_99 (by decide) ?_
                exact ct_iret hx hb hr (vp_nar_int _) hlocks hK hw dX5_passes_101 (Nat.le_of_ble_eq_true rfl) (Nat.le_of_ble_eq_true rfl) ⟨_, rfl, Or.inr (Or.inl ⟨c_10, by rw [e3, e4]; exact fun h => h.2.2.2.2.2.1 c_81, rfl, rfl⟩)⟩
              · skip
                refine lv_iload hx hb dX5_passes_84 (lv_at hl 7 rfl) ?_
                refine lv_aload_n hx hb dX5_passes_86 rfl (lv_at hl 3 rfl) ?_
                refine m_get2 F hi hl16 hK hw dX5_passes_87 ?_
                refine lv_iload hx hb dX5_passes_90 (lv_at hl 0 rfl) ?_
                refine m_ld2 F hK hw (vp_in_nI hbt (by decide)) dX5_passes_92 ?_
                refine lv_iload hx hb dX5_passes_93 (lv_at hl 8 rfl) ?_
                refine lv_isub hx hb dX5_passes_95 ?_
                refine lv_icmp_le (tgt := 102) hx hb dX5_passes_96 (by decide) (fun c_96 => ?_) (fun c_96 => ?_)
                · skip
                  have hfit : mFit p1 p3 p4 (sz (cl (nI bf))) (sz (cl (nI bt))) := ⟨c_33, c_38, c_43, c_55, c_67, c_81, c_96⟩
                  rw [e1, e2] at hfit
                  obtain ⟨ii, jj, nn, rfl, rfl, rfl, hii, hjj⟩ := mFit_nat hnf hnt hfit
                  refine lv_iload hx hb dX5_passes_102 (lv_at hl 8 rfl) ?_
                  refine lv_istore (lv' := [(9, .int _), (8, .int _), (7, .int _), (6, .int _), (0, .ref _), (1, .int _), (2, .int _), (3, .int _), (4, .int _), (5, .int _)]) hx hb dX5_passes_104 hl (by decide) rfl (fun ls hl => ?_)
                  refine lv_iload hx hb dX5_passes_106 (lv_at hl 9 rfl) ?_
                  refine lv_iconst (v := 1) hx hb dX5_passes_108 (by decide) ?_
                  refine lv_isub hx hb dX5_passes_109 ?_
                  refine lv_istore (lv' := [(10, .int _), (9, .int _), (8, .int _), (7, .int _), (6, .int _), (0, .ref _), (1, .int _), (2, .int _), (3, .int _), (4, .int _), (5, .int _)]) hx hb dX5_passes_110 hl (by decide) rfl (fun ls hl => ?_)
                  refine W_loop (σ := Nat × Nat) 112 (fun n (q : Nat × Nat) H locs ls => n = q.1 ∧ mSeek sc sg bf bt ii nn q.1 q.2 ∧ wW G A s.heap (mW Y x ad (d, sc, sz, sg, ik, cp, wt, wa, ch, ct, th)) H locs ∧ lv_has ls 13 [(10, .int (nI q.1 - 1)), (9, .int (nI q.2)), (8, .int (nI bt)), (7, .int (nI bf)), (6, .int (mUnl d sc p0 p2)), (0, .ref x), (1, .int p0), (2, .int (nI ii)), (3, .int p2), (4, .int (nI jj)), (5, .int (nI nn))]) ?_ (n := nn) (x := (nn, nn)) ⟨rfl, ⟨Nat.le_refl _, Nat.le_refl _, Nat.le_refl _, fun k h1 h2 => by omega, fun h => absurd h (Nat.lt_irrefl _)⟩, hw, hl⟩
                  intro n q H locs ls hI ih
                  obtain ⟨kk, st⟩ := q
                  obtain ⟨hn, hsk, hw, hl⟩ := hI
                  dsimp only at hn hsk hl
                  refine lv_iload hx hb dX5_passes_112 (lv_at hl 0 rfl) ?_
                  refine lv_if_lt (tgt := 160) hx hb dX5_passes_114 (by decide) (fun c_114 => ?_) (fun c_114 => ?_)
                  · skip
                    obtain rfl : kk = 0 := nI_m1_neg (by have := hsk.1; omega) c_114
                    have hstp := hsk.done
                    refine W_joini (ls := ls) 178 (fun v => (v = 1 ∧ bf = bt ∧ ii < jj) ∨ (v = 0 ∧ ¬ (bf = bt ∧ ii < jj))) [] ?_ ?_
                    · skip
                      intro bk hbk
                      refine lv_istore (lv' := [(10, .int _), (9, .int _), (8, .int _), (7, .int _), (6, .int _), (0, .ref _), (1, .int _), (2, .int _), (3, .int _), (4, .int _), (5, .int _)]) hx hb dX5_passes_178 hl (by decide) rfl (fun ls hl => ?_)
                      refine lv_iconst (v := 0) hx hb dX5_passes_180 (by decide) ?_
                      refine lv_istore (lv' := [(11, .int _), (10, .int _), (9, .int _), (8, .int _), (7, .int _), (6, .int _), (0, .ref _), (1, .int _), (2, .int _), (3, .int _), (4, .int _), (5, .int _)]) hx hb dX5_passes_181 hl (by decide) rfl (fun ls hl => ?_)
                      refine W_loop (σ := Nat) 183 (fun n (t : Nat) H locs ls => n = st - t ∧ t ≤ st ∧ wW G A s.heap (mW Y x ad (d, sc, sz, mPart sg (40 * bf + ii) (40 * bt + jj) st t bk, ik, cp, wt, wa, ch, ct, th)) H locs ∧ lv_has ls 13 [(11, .int (nI t)), (10, .int bk), (9, .int (nI st)), (8, .int (nI bt)), (7, .int (nI bf)), (6, .int (mUnl d sc p0 p2)), (0, .ref x), (1, .int p0), (2, .int (nI ii)), (3, .int p2), (4, .int (nI jj)), (5, .int (nI nn))]) ?_ (n := st) (x := 0) ⟨rfl, by omega, by rw [mPart_0]; exact hw, hl⟩
                      intro n t H locs ls hI ih2
                      obtain ⟨hn2, ht, hw, hl⟩ := hI
                      refine lv_iload hx hb dX5_passes_183 (lv_at hl 0 rfl) ?_
                      refine lv_iload hx hb dX5_passes_185 (lv_at hl 2 rfl) ?_
                      refine lv_icmp_ge (tgt := 246) hx hb dX5_passes_187 (by decide) (fun c_187 => ?_) (fun c_187 => ?_)
                      · skip
                        have htn : t = st := by
                          have := hstp.1
                          have := le_of_c (by omega) (by omega) c_187
                          omega
                        subst htn
                        refine lv_iload hx hb dX5_passes_246 (lv_at hl 2 rfl) ?_
                        refine lv_iload hx hb dX5_passes_248 (lv_at hl 11 rfl) ?_
                        refine lv_icmp_ge (tgt := 261) hx hb dX5_passes_250 (by decide) (fun c_250 => ?_) (fun c_250 => ?_)
                        · skip
                          have hst40 : t ≤ nn := hstp.1
                          refine lv_iload hx hb dX5_passes_261 (lv_at hl 11 rfl) ?_
                          exact ct_iret hx hb hr (vp_nar_int _) hlocks hK hw dX5_passes_263 (Nat.le_of_ble_eq_true rfl) (Nat.le_of_ble_eq_true rfl) ⟨_, rfl, Or.inr (Or.inr ⟨c_10, bf, bt, ii, jj, nn, nf, nt, t, hbf, hbt, ebf, ebt, rfl, rfl, rfl, enf, ent, hnf, hnt, hii, hjj, hstp, by rw [if_neg (by have := le_of_c (by omega) (by omega) c_250; omega)], mPart_st _ _ _ _ _⟩)⟩
                        · skip
                          have hst40 : t ≤ nn := hstp.1
                          refine lv_bipush (v := -10) hx hb dX5_passes_253 (by decide) ?_
                          refine lv_iload hx hb dX5_passes_255 (lv_at hl 2 rfl) ?_
                          refine lv_isub hx hb dX5_passes_257 ?_
                          refine lv_goto (tgt := 263) hx hb dX5_passes_258 (by decide) ?_
                          exact ct_iret hx hb hr (vp_nar_int _) hlocks hK hw dX5_passes_263 (Nat.le_of_ble_eq_true rfl) (Nat.le_of_ble_eq_true rfl) ⟨_, rfl, Or.inr (Or.inr ⟨c_10, bf, bt, ii, jj, nn, nf, nt, t, hbf, hbt, ebf, ebt, rfl, rfl, rfl, enf, ent, hnf, hnt, hii, hjj, hstp, by rw [if_pos (lt_of_c (by omega) (by omega) c_250)], mPart_st _ _ _ _ _⟩)⟩
                      · skip
                        have hst40 : st ≤ nn := hstp.1
                        have htn : t < st := lt_of_c (by omega) (by omega) c_187
                        refine lv_iload hx hb dX5_passes_190 (lv_at hl 1 rfl) ?_
                        refine lv_if_eq (tgt := 205) hx hb dX5_passes_192 (by decide) (fun c_192 => ?_) (fun c_192 => ?_)
                        · skip
                          refine lv_iload hx hb dX5_passes_205 (lv_at hl 0 rfl) ?_
                          refine lv_topi (fun v9 ev9 => ?_)
                          obtain rfl : v9 = nI (if bk = 1 then st - 1 - t else t) := ev9.trans (by
                            rw [if_neg (by rw [c_192]; decide)])
                          have hmm : (if bk = 1 then st - 1 - t else t) < st := by
                            by_cases q : bk = 1
                            · rw [if_pos q]; omega
                            · rw [if_neg q]; exact htn
                          obtain ⟨mm, hme⟩ : ∃ mm, mm = (if bk = 1 then st - 1 - t else t) := ⟨_, rfl⟩
                          rw [← hme] at hmm ⊢
                          refine lv_istore (lv' := [(12, .int _), (11, .int _), (10, .int _), (9, .int _), (8, .int _), (7, .int _), (6, .int _), (0, .ref _), (1, .int _), (2, .int _), (3, .int _), (4, .int _), (5, .int _)]) hx hb dX5_passes_207 hl (by decide) rfl (fun ls hl => ?_)
                          refine lv_aload_n hx hb dX5_passes_209 rfl (lv_at hl 7 rfl) ?_
                          refine m_get3 F hi hl19 hK hw dX5_passes_210 ?_
                          refine lv_bipush (v := 40) hx hb dX5_passes_213 (by decide) ?_
                          refine lv_iload hx hb dX5_passes_215 (lv_at hl 4 rfl) ?_
                          refine lv_imul hx hb dX5_passes_217 ?_
                          refine lv_iload hx hb dX5_passes_218 (lv_at hl 11 rfl) ?_
                          refine lv_iadd hx hb dX5_passes_220 ?_
                          refine lv_iload hx hb dX5_passes_221 (lv_at hl 0 rfl) ?_
                          refine lv_iadd hx hb dX5_passes_223 ?_
                          refine lv_aload_n hx hb dX5_passes_224 rfl (lv_at hl 7 rfl) ?_
                          refine m_get3 F hi hl19 hK hw dX5_passes_225 ?_
                          refine lv_bipush (v := 40) hx hb dX5_passes_228 (by decide) ?_
                          refine lv_iload hx hb dX5_passes_230 (lv_at hl 5 rfl) ?_
                          refine lv_imul hx hb dX5_passes_232 ?_
                          refine lv_iload_n hx hb dX5_passes_233 rfl (lv_at hl 9 rfl) ?_
                          refine lv_iadd hx hb dX5_passes_234 ?_
                          refine lv_iload hx hb dX5_passes_235 (lv_at hl 0 rfl) ?_
                          refine lv_iadd hx hb dX5_passes_237 ?_
                          refine m_ld3 F hK hw (in40b hbf (by omega)) dX5_passes_238 ?_
                          rw [cl40b hbf (show ii + mm < 40 by omega)]
                          refine m_st3 F hK hw (in40b hbt (by omega)) dX5_passes_239 (fun H locs hw => ?_)
                          refine lv_iinc (lv' := [(11, .int _), (12, .int _), (10, .int _), (9, .int _), (8, .int _), (7, .int _), (6, .int _), (0, .ref _), (1, .int _), (2, .int _), (3, .int _), (4, .int _), (5, .int _)]) hx hb dX5_passes_240 hl (k := 1) rfl rfl (by decide) rfl (fun ls hl => ?_)
                          refine lv_goto (tgt := 183) hx hb dX5_passes_243 (by decide) ?_
                          exact ih2 _ (t + 1) _ _ _ (by omega) ⟨rfl, by omega, by
                            have q1 := mPart_read (sg := sg) (ii := ii) (jj := jj) (st := st) (k := t) (by omega) (by omega) htn hbk
                            have q2 := mPart_step (sg := sg) (bf := bf) (bt := bt) (ii := ii) (jj := jj) (st := st) (k := t) (back := bk) htn (hbk.elim (fun h => Or.inl h.1) (fun h => Or.inr h.1))
                            rw [← hme] at q1 q2
                            rw [← q2, ← q1, ← cl40b hbt (show jj + mm < 40 by omega)]
                            exact hw, by
                            have hl := lv_sub hl [0, 2, 3, 4, 5, 6, 7, 8, 9, 10, 11, 12] rfl
                            rw [nI_succ]; exact hl⟩
                        · skip
                          refine lv_iload hx hb dX5_passes_195 (lv_at hl 2 rfl) ?_
                          refine lv_iconst (v := 1) hx hb dX5_passes_197 (by decide) ?_
                          refine lv_isub hx hb dX5_passes_198 ?_
                          refine lv_iload hx hb dX5_passes_199 (lv_at hl 0 rfl) ?_
                          refine lv_isub hx hb dX5_passes_201 ?_
                          refine lv_goto (tgt := 207) hx hb dX5_passes_202 (by decide) ?_
                          refine lv_topi (fun v9 ev9 => ?_)
                          obtain rfl : v9 = nI (if bk = 1 then st - 1 - t else t) := ev9.trans (by
                            rw [if_pos (by rcases hbk with q | q; exact q.1; exact absurd q.1 c_192), show (1 : Int32) = nI 1 from rfl, pk_sub (by omega), pk_sub (by omega)])
                          have hmm : (if bk = 1 then st - 1 - t else t) < st := by
                            by_cases q : bk = 1
                            · rw [if_pos q]; omega
                            · rw [if_neg q]; exact htn
                          obtain ⟨mm, hme⟩ : ∃ mm, mm = (if bk = 1 then st - 1 - t else t) := ⟨_, rfl⟩
                          rw [← hme] at hmm ⊢
                          refine lv_istore (lv' := [(12, .int _), (11, .int _), (10, .int _), (9, .int _), (8, .int _), (7, .int _), (6, .int _), (0, .ref _), (1, .int _), (2, .int _), (3, .int _), (4, .int _), (5, .int _)]) hx hb dX5_passes_207 hl (by decide) rfl (fun ls hl => ?_)
                          refine lv_aload_n hx hb dX5_passes_209 rfl (lv_at hl 7 rfl) ?_
                          refine m_get3 F hi hl19 hK hw dX5_passes_210 ?_
                          refine lv_bipush (v := 40) hx hb dX5_passes_213 (by decide) ?_
                          refine lv_iload hx hb dX5_passes_215 (lv_at hl 4 rfl) ?_
                          refine lv_imul hx hb dX5_passes_217 ?_
                          refine lv_iload hx hb dX5_passes_218 (lv_at hl 11 rfl) ?_
                          refine lv_iadd hx hb dX5_passes_220 ?_
                          refine lv_iload hx hb dX5_passes_221 (lv_at hl 0 rfl) ?_
                          refine lv_iadd hx hb dX5_passes_223 ?_
                          refine lv_aload_n hx hb dX5_passes_224 rfl (lv_at hl 7 rfl) ?_
                          refine m_get3 F hi hl19 hK hw dX5_passes_225 ?_
                          refine lv_bipush (v := 40) hx hb dX5_passes_228 (by decide) ?_
                          refine lv_iload hx hb dX5_passes_230 (lv_at hl 5 rfl) ?_
                          refine lv_imul hx hb dX5_passes_232 ?_
                          refine lv_iload_n hx hb dX5_passes_233 rfl (lv_at hl 9 rfl) ?_
                          refine lv_iadd hx hb dX5_passes_234 ?_
                          refine lv_iload hx hb dX5_passes_235 (lv_at hl 0 rfl) ?_
                          refine lv_iadd hx hb dX5_passes_237 ?_
                          refine m_ld3 F hK hw (in40b hbf (by omega)) dX5_passes_238 ?_
                          rw [cl40b hbf (show ii + mm < 40 by omega)]
                          refine m_st3 F hK hw (in40b hbt (by omega)) dX5_passes_239 (fun H locs hw => ?_)
                          refine lv_iinc (lv' := [(11, .int _), (12, .int _), (10, .int _), (9, .int _), (8, .int _), (7, .int _), (6, .int _), (0, .ref _), (1, .int _), (2, .int _), (3, .int _), (4, .int _), (5, .int _)]) hx hb dX5_passes_240 hl (k := 1) rfl rfl (by decide) rfl (fun ls hl => ?_)
                          refine lv_goto (tgt := 183) hx hb dX5_passes_243 (by decide) ?_
                          exact ih2 _ (t + 1) _ _ _ (by omega) ⟨rfl, by omega, by
                            have q1 := mPart_read (sg := sg) (ii := ii) (jj := jj) (st := st) (k := t) (by omega) (by omega) htn hbk
                            have q2 := mPart_step (sg := sg) (bf := bf) (bt := bt) (ii := ii) (jj := jj) (st := st) (k := t) (back := bk) htn (hbk.elim (fun h => Or.inl h.1) (fun h => Or.inr h.1))
                            rw [← hme] at q1 q2
                            rw [← q2, ← q1, ← cl40b hbt (show jj + mm < 40 by omega)]
                            exact hw, by
                            have hl := lv_sub hl [0, 2, 3, 4, 5, 6, 7, 8, 9, 10, 11, 12] rfl
                            rw [nI_succ]; exact hl⟩
                    · intro jn
                      refine lv_iload hx hb dX5_passes_160 (lv_at hl 3 rfl) ?_
                      refine lv_iload hx hb dX5_passes_162 (lv_at hl 2 rfl) ?_
                      refine lv_icmp_ne (tgt := 177) hx hb dX5_passes_164 (by decide) (fun c_164 => ?_) (fun c_164 => ?_)
                      · skip
                        refine lv_iconst (v := 0) hx hb dX5_passes_177 (by decide) ?_
                        exact jn _ (Or.inr ⟨rfl, fun q => c_164 (by rw [q.1])⟩)
                      · skip
                        refine lv_iload hx hb dX5_passes_167 (lv_at hl 9 rfl) ?_
                        refine lv_iload_n hx hb dX5_passes_169 rfl (lv_at hl 7 rfl) ?_
                        refine lv_icmp_le (tgt := 177) hx hb dX5_passes_170 (by decide) (fun c_170 => ?_) (fun c_170 => ?_)
                        · skip
                          refine lv_iconst (v := 0) hx hb dX5_passes_177 (by decide) ?_
                          exact jn _ (Or.inr ⟨rfl, fun q => absurd (le_of_c (by omega) (by omega) c_170) (by omega)⟩)
                        · skip
                          refine lv_iconst (v := 1) hx hb dX5_passes_173 (by decide) ?_
                          refine lv_goto (tgt := 178) hx hb dX5_passes_174 (by decide) ?_
                          exact jn _ (Or.inl ⟨rfl, (nI_eq (by omega) (by omega)).mp c_164, lt_of_c (by omega) (by omega) c_170⟩)
                  · skip
                    obtain ⟨k9, rfl⟩ := nI_m1_pos c_114
                    have hk9 : k9 < nn := by have := hsk.1; omega
                    refine lv_aload_n hx hb dX5_passes_117 rfl (lv_at hl 5 rfl) ?_
                    refine lv_iload hx hb dX5_passes_118 (lv_at hl 3 rfl) ?_
                    refine (c_m_isPictures l G Y x ad _ _ _ _ _ _ _ _ _ _ _ _ (nI_isD hbf)).callV F (cwV 1 hts gX5_passes_X5_isPictures rfl rfl rfl (by decide +kernel) ⟨Nat.le_of_ble_eq_true rfl, Nat.le_of_ble_eq_true rfl⟩) hK hw hA (m_recv hK hw) rfl rfl hl.1 (Nat.le_of_ble_eq_true rfl) dX5_passes_120 ⟨Nat.le_of_ble_eq_true rfl, Nat.le_of_ble_eq_true rfl⟩ (fun r_120 u_120 H locs hp_120 hw => ?_)
                    obtain ⟨rfl, ⟨hq_120, rfl⟩ | ⟨hq_120, rfl⟩⟩ := hp_120
                    · skip
                      refine lv_if_eq (tgt := 154) hx hb dX5_passes_123 (by decide) (fun c_123 => ?_) (fun c_123 => ?_)
                      · exact absurd c_123 (by decide)
                      · skip
                        refine lv_aload_n hx hb dX5_passes_126 rfl (lv_at hl 5 rfl) ?_
                        refine lv_iload hx hb dX5_passes_127 (lv_at hl 2 rfl) ?_
                        refine lv_aload_n hx hb dX5_passes_129 rfl (lv_at hl 5 rfl) ?_
                        refine m_get3 F hi hl19 hK hw dX5_passes_130 ?_
                        refine lv_bipush (v := 40) hx hb dX5_passes_133 (by decide) ?_
                        refine lv_iload hx hb dX5_passes_135 (lv_at hl 3 rfl) ?_
                        refine lv_imul hx hb dX5_passes_137 ?_
                        refine lv_iload_n hx hb dX5_passes_138 rfl (lv_at hl 7 rfl) ?_
                        refine lv_iadd hx hb dX5_passes_139 ?_
                        refine lv_iload hx hb dX5_passes_140 (lv_at hl 0 rfl) ?_
                        refine lv_iadd hx hb dX5_passes_142 ?_
                        refine m_ld3 F hK hw (by rw [nI_pred]; exact in40b hbf (by omega)) dX5_passes_143 ?_
                        rw [nI_pred, cl40b hbf (show ii + k9 < 40 by omega)]
                        refine (c_m_may l G Y x ad _ _ _ _ _ _ _ _ _ _ _ _ _ (nI_isD hbt)).callV F (cwV 2 hts gX5_passes_X5_may rfl rfl rfl (by decide +kernel) ⟨Nat.le_of_ble_eq_true rfl, Nat.le_of_ble_eq_true rfl⟩) hK hw hA (m_recv hK hw) rfl rfl hl.1 (Nat.le_of_ble_eq_true rfl) dX5_passes_144 ⟨Nat.le_of_ble_eq_true rfl, Nat.le_of_ble_eq_true rfl⟩ (fun r_144 u_144 H locs hp_144 hw => ?_)
                        obtain ⟨rfl, ⟨hq_144, rfl⟩ | ⟨hq_144, rfl⟩⟩ := hp_144
                        · skip
                          refine lv_if_ne (tgt := 154) hx hb dX5_passes_147 (by decide) (fun c_147 => ?_) (fun c_147 => ?_)
                          · skip
                            refine lv_iinc (lv' := [(10, .int _), (9, .int _), (8, .int _), (7, .int _), (6, .int _), (0, .ref _), (1, .int _), (2, .int _), (3, .int _), (4, .int _), (5, .int _)]) hx hb dX5_passes_154 hl (k := 0) rfl rfl (by decide) rfl (fun ls hl => ?_)
                            refine lv_goto (tgt := 112) hx hb dX5_passes_157 (by decide) ?_
                            exact ih _ (k9, st) _ _ _ (by omega) ⟨rfl, hsk.keep (fun hb => hb.2 (by rw [cl_nI (by omega)] at hq_144; exact hq_144)), hw, by
                              have hl := lv_sub hl [0, 1, 2, 3, 4, 5, 6, 7, 8, 9, 10] rfl
                              have e9 : nI (k9 + 1) - 1 + Int32.ofInt (-1) = nI k9 - 1 := by rw [nI_pred, show Int32.ofInt (-1) = -1 from by decide, Int32.sub_eq_add_neg]
                              simp only [nI_pred] at hl e9
                              rw [← e9]
                              exact hl⟩
                          · exact absurd c_147 (by decide)
                        · skip
                          refine lv_if_ne (tgt := 154) hx hb dX5_passes_147 (by decide) (fun c_147 => ?_) (fun c_147 => ?_)
                          · exact absurd rfl c_147
                          · skip
                            refine lv_iload hx hb dX5_passes_150 (lv_at hl 0 rfl) ?_
                            refine lv_istore (lv' := [(9, .int _), (10, .int _), (8, .int _), (7, .int _), (6, .int _), (0, .ref _), (1, .int _), (2, .int _), (3, .int _), (4, .int _), (5, .int _)]) hx hb dX5_passes_152 hl (by decide) rfl (fun ls hl => ?_)
                            refine lv_iinc (lv' := [(10, .int _), (9, .int _), (8, .int _), (7, .int _), (6, .int _), (0, .ref _), (1, .int _), (2, .int _), (3, .int _), (4, .int _), (5, .int _)]) hx hb dX5_passes_154 hl (k := 1) rfl rfl (by decide) rfl (fun ls hl => ?_)
                            refine lv_goto (tgt := 112) hx hb dX5_passes_157 (by decide) ?_
                            exact ih _ (k9, k9) _ _ _ (by omega) ⟨rfl, hsk.stop ⟨by rw [cl_nI (by omega)] at hq_120; exact hq_120, by rw [cl_nI (by omega)] at hq_144; exact hq_144⟩, hw, by
                              have hl := lv_sub hl [0, 1, 2, 3, 4, 5, 6, 7, 8, 9, 10] rfl
                              have e9 : nI (k9 + 1) - 1 + Int32.ofInt (-1) = nI k9 - 1 := by rw [nI_pred, show Int32.ofInt (-1) = -1 from by decide, Int32.sub_eq_add_neg]
                              simp only [nI_pred] at hl e9
                              rw [← e9]
                              exact hl⟩
                    · skip
                      refine lv_if_eq (tgt := 154) hx hb dX5_passes_123 (by decide) (fun c_123 => ?_) (fun c_123 => ?_)
                      · skip
                        refine lv_iinc (lv' := [(10, .int _), (9, .int _), (8, .int _), (7, .int _), (6, .int _), (0, .ref _), (1, .int _), (2, .int _), (3, .int _), (4, .int _), (5, .int _)]) hx hb dX5_passes_154 hl (k := 0) rfl rfl (by decide) rfl (fun ls hl => ?_)
                        refine lv_goto (tgt := 112) hx hb dX5_passes_157 (by decide) ?_
                        exact ih _ (k9, st) _ _ _ (by omega) ⟨rfl, hsk.keep (fun hb => hq_120 (by rw [cl_nI (by omega)]; exact hb.1)), hw, by
                          have hl := lv_sub hl [0, 1, 2, 3, 4, 5, 6, 7, 8, 9, 10] rfl
                          have e9 : nI (k9 + 1) - 1 + Int32.ofInt (-1) = nI k9 - 1 := by rw [nI_pred, show Int32.ofInt (-1) = -1 from by decide, Int32.sub_eq_add_neg]
                          simp only [nI_pred] at hl e9
                          rw [← e9]
                          exact hl⟩
                      · exact absurd rfl c_123
                · skip
                  refine lv_bipush (v := -3) hx hb dX5_passes_99 (by decide) ?_
                  exact ct_iret hx hb hr (vp_nar_int _) hlocks hK hw dX5_passes_101 (Nat.le_of_ble_eq_true rfl) (Nat.le_of_ble_eq_true rfl) ⟨_, rfl, Or.inr (Or.inl ⟨c_10, by rw [e3, e4]; exact fun h => c_96 h.2.2.2.2.2.2, rfl, rfl⟩)⟩
  · skip
    refine lv_iload hx hb dX5_passes_13 (lv_at hl 0 rfl) ?_
    exact ct_iret hx hb hr (vp_nar_int _) hlocks hK hw dX5_passes_15 (Nat.le_of_ble_eq_true rfl) (Nat.le_of_ble_eq_true rfl) ⟨_, rfl, Or.inl ⟨c_10, rfl, rfl⟩⟩

set_option maxHeartbeats 4000000 in
set_option maxRecDepth 100000 in
theorem c_m_copy (l : Launch) (G : va_G) (Y : Nat → ClassId) (x : Nat) (ad : Nat → Nat) (d sc sz : Nat → Int32) (sg : Nat → Int64) (ik cp wt wa ch ct : Nat → Int32) (th : Int32) (p0 : Int32) (p1 : Int32) (p2 : Int32) (p3 : Int32) (p4 : Int32) (p5 : Int32) (hd : dOK d) (hz : zOK sz) (c0 : Nat) (hc0 : c0OK ct c0) : ctI l G Y (mW Y x ad) yX5_copy wsX5_copy ({ frames := 2, cells := 0, slots := 0, locals := 120 }) [.ref x, .int p0, .int p1, .int p2, .int p3, .int p4, .int p5] (d, sc, sz, sg, ik, cp, wt, wa, ch, ct, th) (fun r u' => mCopyP (d, sc, sz, sg, ik, cp, wt, wa, ch, ct, th) p0 p1 p2 p3 p4 p5 r u') := by
  refine ctI.of (cc := cX5_copy) (maxL := 10) (ret := (some .int)) (by decide) rfl (Nat.le_of_ble_eq_true rfl) ?_
  intro A p e s m below meth c ls hB
  obtain ⟨F, hr, hlocks, hnm, hK, hA, hw, hl⟩ := hB
  obtain ⟨hx, hb, hml, hown, hts⟩ := id F
  have hl : lv_has ls 10 [(0, .ref x), (1, .int p0), (2, .int p1), (3, .int p2), (4, .int p3), (5, .int p4), (6, .int p5)] := hl
  have hi : ∀ w ∈ wsX50, w ∈ wsX5_copy := by decide +kernel
  have hl23 : Cond.fieldLink RX5 23 "ScriptoriumModel" "ink" "[I" ∈ wsX5_copy := by decide +kernel
  have hl26 : Cond.fieldLink RX5 26 "ScriptoriumModel" "copied" "[I" ∈ wsX5_copy := by decide +kernel
  have hl35 : Cond.fieldLink RX5 35 "ScriptoriumModel" "chronicle" "[I" ∈ wsX5_copy := by decide +kernel
  have hl38 : Cond.fieldLink RX5 38 "ScriptoriumModel" "counts" "[I" ∈ wsX5_copy := by decide +kernel
  have hl41 : Cond.fieldLink RX5 41 "ScriptoriumModel" "thrown" "I" ∈ wsX5_copy := by decide +kernel
  refine lv_aload_n hx hb dX5_copy_0 rfl (lv_at hl 0 rfl) ?_
  refine lv_iconst (v := 0) hx hb dX5_copy_1 (by decide) ?_
  refine m_put10 F hi hl41 hK hw dX5_copy_2 (fun H locs hw => ?_)
  refine lv_iload_n hx hb dX5_copy_5 rfl (lv_at hl 1 rfl) ?_
  refine (c_m_isScribe l G Y x ad _ _ _ _ _ _ _ _ _ _ _ _).callS F (va_cwS 1 hts gX5_copy_X5_isScribe rfl rfl rfl (by decide +kernel) ⟨Nat.le_of_ble_eq_true rfl, Nat.le_of_ble_eq_true rfl⟩) hK hw hA rfl rfl hl.1 (Nat.le_of_ble_eq_true rfl) dX5_copy_6 ⟨Nat.le_of_ble_eq_true rfl, Nat.le_of_ble_eq_true rfl⟩ (fun r_6 u_6 H locs hp_6 hw => ?_)
  obtain ⟨rfl, ⟨hq_6, rfl⟩ | ⟨hq_6, rfl⟩⟩ := hp_6
  · skip
    refine lv_if_eq (tgt := 27) hx hb dX5_copy_9 (by decide) (fun c_9 => ?_) (fun c_9 => ?_)
    · exact absurd c_9 (by decide)
    · skip
      refine lv_iload_n hx hb dX5_copy_12 rfl (lv_at hl 2 rfl) ?_
      refine (c_m_isDesk l G Y x ad _ _ _ _ _ _ _ _ _ _ _ _).callS F (va_cwS 1 hts gX5_copy_X5_isDesk rfl rfl rfl (by decide +kernel) ⟨Nat.le_of_ble_eq_true rfl, Nat.le_of_ble_eq_true rfl⟩) hK hw hA rfl rfl hl.1 (Nat.le_of_ble_eq_true rfl) dX5_copy_13 ⟨Nat.le_of_ble_eq_true rfl, Nat.le_of_ble_eq_true rfl⟩ (fun r_13 u_13 H locs hp_13 hw => ?_)
      obtain ⟨rfl, ⟨hq_13, rfl⟩ | ⟨hq_13, rfl⟩⟩ := hp_13
      · skip
        refine lv_if_eq (tgt := 27) hx hb dX5_copy_16 (by decide) (fun c_16 => ?_) (fun c_16 => ?_)
        · exact absurd c_16 (by decide)
        · skip
          refine lv_iload hx hb dX5_copy_19 (lv_at hl 4 rfl) ?_
          refine (c_m_isDesk l G Y x ad _ _ _ _ _ _ _ _ _ _ _ _).callS F (va_cwS 1 hts gX5_copy_X5_isDesk rfl rfl rfl (by decide +kernel) ⟨Nat.le_of_ble_eq_true rfl, Nat.le_of_ble_eq_true rfl⟩) hK hw hA rfl rfl hl.1 (Nat.le_of_ble_eq_true rfl) dX5_copy_21 ⟨Nat.le_of_ble_eq_true rfl, Nat.le_of_ble_eq_true rfl⟩ (fun r_21 u_21 H locs hp_21 hw => ?_)
          obtain ⟨rfl, ⟨hq_21, rfl⟩ | ⟨hq_21, rfl⟩⟩ := hp_21
          · skip
            refine lv_if_ne (tgt := 30) hx hb dX5_copy_24 (by decide) (fun c_24 => ?_) (fun c_24 => ?_)
            · skip
              refine lv_aload_n hx hb dX5_copy_30 rfl (lv_at hl 0 rfl) ?_
              refine m_get4 F hi hl23 hK hw dX5_copy_31 ?_
              refine lv_iload_n hx hb dX5_copy_34 rfl (lv_at hl 1 rfl) ?_
              refine m_ld4 F hK hw hq_6.in dX5_copy_35 ?_
              refine lv_iload hx hb dX5_copy_36 (lv_at hl 6 rfl) ?_
              refine lv_icmp_ge (tgt := 44) hx hb dX5_copy_38 (by decide) (fun c_38 => ?_) (fun c_38 => ?_)
              · skip
                refine lv_aload_n hx hb dX5_copy_44 rfl (lv_at hl 0 rfl) ?_
                refine lv_iload_n hx hb dX5_copy_45 rfl (lv_at hl 2 rfl) ?_
                refine lv_iload_n hx hb dX5_copy_46 rfl (lv_at hl 3 rfl) ?_
                refine lv_iload hx hb dX5_copy_47 (lv_at hl 4 rfl) ?_
                refine lv_iload hx hb dX5_copy_49 (lv_at hl 5 rfl) ?_
                refine lv_iload hx hb dX5_copy_51 (lv_at hl 6 rfl) ?_
                refine (c_m_passes l G Y x ad _ _ _ _ _ _ _ _ _ _ _ _ _ _ _ _ hd hz hq_13 hq_21).callV F (cwV 5 hts gX5_copy_X5_passes rfl rfl rfl (by decide +kernel) ⟨Nat.le_of_ble_eq_true rfl, Nat.le_of_ble_eq_true rfl⟩) hK hw hA (m_recv hK hw) rfl rfl hl.1 (Nat.le_of_ble_eq_true rfl) dX5_copy_53 ⟨Nat.le_of_ble_eq_true rfl, Nat.le_of_ble_eq_true rfl⟩ (fun r_53 u_53 H locs hp_53 hw => ?_)
                obtain ⟨sg', rfl, hpp⟩ := hp_53
                refine lv_istore (lv' := [(7, .int _), (0, .ref _), (1, .int _), (2, .int _), (3, .int _), (4, .int _), (5, .int _), (6, .int _)]) hx hb dX5_copy_56 hl (by decide) rfl (fun ls hl => ?_)
                refine W_joini (ls := ls) 84 (fun v => v = mDone r_53) [] ?_ ?_
                · skip
                  intro dn edn
                  subst edn
                  refine lv_istore (lv' := [(8, .int _), (7, .int _), (0, .ref _), (1, .int _), (2, .int _), (3, .int _), (4, .int _), (5, .int _), (6, .int _)]) hx hb dX5_copy_84 hl (by decide) rfl (fun ls hl => ?_)
                  refine lv_aload_n hx hb dX5_copy_86 rfl (lv_at hl 2 rfl) ?_
                  refine m_get4 F hi hl23 hK hw dX5_copy_87 ?_
                  refine lv_iload_n hx hb dX5_copy_90 rfl (lv_at hl 3 rfl) ?_
                  refine lv_dup2_11 hx hb dX5_copy_91 rfl rfl ?_
                  refine m_ld4 F hK hw hq_6.in dX5_copy_92 ?_
                  refine lv_iload hx hb dX5_copy_93 (lv_at hl 0 rfl) ?_
                  refine lv_isub hx hb dX5_copy_95 ?_
                  refine m_st4 F hK hw hq_6.in dX5_copy_96 (fun H locs hw => ?_)
                  refine lv_aload_n hx hb dX5_copy_97 rfl (lv_at hl 2 rfl) ?_
                  refine m_get5 F hi hl26 hK hw dX5_copy_98 ?_
                  refine lv_iload_n hx hb dX5_copy_101 rfl (lv_at hl 3 rfl) ?_
                  refine lv_dup2_11 hx hb dX5_copy_102 rfl rfl ?_
                  refine m_ld5 F hK hw hq_6.in dX5_copy_103 ?_
                  refine lv_iload hx hb dX5_copy_104 (lv_at hl 0 rfl) ?_
                  refine lv_iadd hx hb dX5_copy_106 ?_
                  refine m_st5 F hK hw hq_6.in dX5_copy_107 (fun H locs hw => ?_)
                  refine lv_aload_n hx hb dX5_copy_108 rfl (lv_at hl 2 rfl) ?_
                  refine m_get9 F hi hl38 hK hw dX5_copy_109 ?_
                  refine lv_bipush (v := 6) hx hb dX5_copy_112 (by decide) ?_
                  refine lv_dup2_11 hx hb dX5_copy_114 rfl rfl ?_
                  refine m_ld9 F hK hw (vp_in_nI (n := 6) (by decide) (by decide)) dX5_copy_115 ?_
                  refine lv_iload hx hb dX5_copy_116 (lv_at hl 0 rfl) ?_
                  refine lv_iadd hx hb dX5_copy_118 ?_
                  refine m_st9 F hK hw (vp_in_nI (n := 6) (by decide) (by decide)) dX5_copy_119 (fun H locs hw => ?_)
                  refine lv_aload_n hx hb dX5_copy_120 rfl (lv_at hl 2 rfl) ?_
                  refine m_get9 F hi hl38 hK hw dX5_copy_121 ?_
                  refine lv_iconst (v := 0) hx hb dX5_copy_124 (by decide) ?_
                  refine m_ld9 F hK hw (vp_in_nI (n := 0) (by decide) (by decide)) dX5_copy_125 ?_
                  refine lv_bipush (v := 16) hx hb dX5_copy_126 (by decide) ?_
                  refine lv_irem hx hb dX5_copy_128 (by decide) ?_
                  refine lv_topi (fun at_ eat => ?_)
                  obtain rfl : at_ = mAt ct := eat
                  refine lv_istore (lv' := [(9, .int _), (8, .int _), (7, .int _), (0, .ref _), (1, .int _), (2, .int _), (3, .int _), (4, .int _), (5, .int _), (6, .int _)]) hx hb dX5_copy_129 hl (by decide) rfl (fun ls hl => ?_)
                  refine lv_aload_n hx hb dX5_copy_131 rfl (lv_at hl 3 rfl) ?_
                  refine m_get8 F hi hl35 hK hw dX5_copy_132 ?_
                  refine lv_iconst (v := 4) hx hb dX5_copy_135 (by decide) ?_
                  refine lv_iload hx hb dX5_copy_136 (lv_at hl 0 rfl) ?_
                  refine lv_imul hx hb dX5_copy_138 ?_
                  refine lv_iload_n hx hb dX5_copy_139 rfl (lv_at hl 4 rfl) ?_
                  refine m_st8 F hK hw (in4' hc0) dX5_copy_140 (fun H locs hw => ?_)
                  refine lv_aload_n hx hb dX5_copy_141 rfl (lv_at hl 3 rfl) ?_
                  refine m_get8 F hi hl35 hK hw dX5_copy_142 ?_
                  refine lv_iconst (v := 4) hx hb dX5_copy_145 (by decide) ?_
                  refine lv_iload hx hb dX5_copy_146 (lv_at hl 0 rfl) ?_
                  refine lv_imul hx hb dX5_copy_148 ?_
                  refine lv_iconst (v := 1) hx hb dX5_copy_149 (by decide) ?_
                  refine lv_iadd hx hb dX5_copy_150 ?_
                  refine lv_iload_n hx hb dX5_copy_151 rfl (lv_at hl 5 rfl) ?_
                  refine m_st8 F hK hw (in4 hc0 1 (by decide)) dX5_copy_152 (fun H locs hw => ?_)
                  refine lv_aload_n hx hb dX5_copy_153 rfl (lv_at hl 3 rfl) ?_
                  refine m_get8 F hi hl35 hK hw dX5_copy_154 ?_
                  refine lv_iconst (v := 4) hx hb dX5_copy_157 (by decide) ?_
                  refine lv_iload hx hb dX5_copy_158 (lv_at hl 0 rfl) ?_
                  refine lv_imul hx hb dX5_copy_160 ?_
                  refine lv_iconst (v := 2) hx hb dX5_copy_161 (by decide) ?_
                  refine lv_iadd hx hb dX5_copy_162 ?_
                  refine lv_iload hx hb dX5_copy_163 (lv_at hl 7 rfl) ?_
                  refine m_st8 F hK hw (in4 hc0 2 (by decide)) dX5_copy_165 (fun H locs hw => ?_)
                  refine lv_aload_n hx hb dX5_copy_166 rfl (lv_at hl 3 rfl) ?_
                  refine m_get8 F hi hl35 hK hw dX5_copy_167 ?_
                  refine lv_iconst (v := 4) hx hb dX5_copy_170 (by decide) ?_
                  refine lv_iload hx hb dX5_copy_171 (lv_at hl 0 rfl) ?_
                  refine lv_imul hx hb dX5_copy_173 ?_
                  refine lv_iconst (v := 3) hx hb dX5_copy_174 (by decide) ?_
                  refine lv_iadd hx hb dX5_copy_175 ?_
                  refine lv_iload hx hb dX5_copy_176 (lv_at hl 2 rfl) ?_
                  refine m_st8 F hK hw (in4 hc0 3 (by decide)) dX5_copy_178 (fun H locs hw => ?_)
                  refine lv_aload_n hx hb dX5_copy_179 rfl (lv_at hl 3 rfl) ?_
                  refine m_get9 F hi hl38 hK hw dX5_copy_180 ?_
                  refine lv_iconst (v := 0) hx hb dX5_copy_183 (by decide) ?_
                  refine lv_dup2_11 hx hb dX5_copy_184 rfl rfl ?_
                  refine m_ld9 F hK hw (vp_in_nI (n := 0) (by decide) (by decide)) dX5_copy_185 ?_
                  refine lv_iconst (v := 1) hx hb dX5_copy_186 (by decide) ?_
                  refine lv_iadd hx hb dX5_copy_187 ?_
                  refine m_st9 F hK hw (vp_in_nI (n := 0) (by decide) (by decide)) dX5_copy_188 (fun H locs hw => ?_)
                  refine lv_aload_n hx hb dX5_copy_189 rfl (lv_at hl 3 rfl) ?_
                  refine m_get9 F hi hl38 hK hw dX5_copy_190 ?_
                  refine W_joini (ls := ls) 217 (fun v => v = mTal r_53) [.ref (ad 9)] ?_ ?_
                  · skip
                    intro tl etl
                    subst etl
                    refine lv_dup2_11 hx hb dX5_copy_217 rfl rfl ?_
                    refine m_ld9 F hK hw (mTal_in (mPass_rng hpp)) dX5_copy_218 ?_
                    refine lv_iconst (v := 1) hx hb dX5_copy_219 (by decide) ?_
                    refine lv_iadd hx hb dX5_copy_220 ?_
                    refine m_st9 F hK hw (mTal_in (mPass_rng hpp)) dX5_copy_221 (fun H locs hw => ?_)
                    refine lv_iload hx hb dX5_copy_222 (lv_at hl 2 rfl) ?_
                    exact ct_iret hx hb hr (vp_nar_int _) hlocks hK hw dX5_copy_224 (Nat.le_of_ble_eq_true rfl) (Nat.le_of_ble_eq_true rfl) (Or.inr (Or.inr ⟨⟨hq_6, hq_13, hq_21⟩, Int32.not_lt.mpr c_38, sg', hpp, rfl⟩))
                  · intro jn2
                    refine lv_iload hx hb dX5_copy_193 (lv_at hl 2 rfl) ?_
                    refine lv_if_lt (tgt := 202) hx hb dX5_copy_195 (by decide) (fun c_195 => ?_) (fun c_195 => ?_)
                    · skip
                      refine lv_iload hx hb dX5_copy_202 (lv_at hl 2 rfl) ?_
                      refine lv_bipush (v := -10) hx hb dX5_copy_204 (by decide) ?_
                      refine lv_icmp_gt (tgt := 213) hx hb dX5_copy_206 (by decide) (fun c_206 => ?_) (fun c_206 => ?_)
                      · skip
                        refine lv_iconst (v := 1) hx hb dX5_copy_213 (by decide) ?_
                        refine lv_iload hx hb dX5_copy_214 (lv_at hl 2 rfl) ?_
                        refine lv_isub hx hb dX5_copy_216 ?_
                        exact jn2 _ (by unfold mTal; rw [if_neg (fun q => q c_195), if_neg (Int32.not_le.mpr c_206)])
                      · skip
                        refine lv_iconst (v := 5) hx hb dX5_copy_209 (by decide) ?_
                        refine lv_goto (tgt := 217) hx hb dX5_copy_210 (by decide) ?_
                        exact jn2 _ (by unfold mTal; rw [if_neg (fun q => q c_195), if_pos (Int32.not_lt.mp c_206)])
                    · skip
                      refine lv_iconst (v := 1) hx hb dX5_copy_198 (by decide) ?_
                      refine lv_goto (tgt := 217) hx hb dX5_copy_199 (by decide) ?_
                      exact jn2 _ (by unfold mTal; rw [if_pos c_195])
                · intro jn
                  refine lv_iload hx hb dX5_copy_58 (lv_at hl 0 rfl) ?_
                  refine lv_bipush (v := -10) hx hb dX5_copy_60 (by decide) ?_
                  refine lv_icmp_gt (tgt := 73) hx hb dX5_copy_62 (by decide) (fun c_62 => ?_) (fun c_62 => ?_)
                  · skip
                    refine lv_iload hx hb dX5_copy_73 (lv_at hl 0 rfl) ?_
                    refine lv_if_le (tgt := 83) hx hb dX5_copy_75 (by decide) (fun c_75 => ?_) (fun c_75 => ?_)
                    · skip
                      refine lv_iconst (v := 0) hx hb dX5_copy_83 (by decide) ?_
                      exact jn _ (by unfold mDone; rw [if_neg (Int32.not_le.mpr c_62), if_neg (Int32.not_lt.mpr c_75)])
                    · skip
                      refine lv_iload hx hb dX5_copy_78 (lv_at hl 0 rfl) ?_
                      refine lv_goto (tgt := 84) hx hb dX5_copy_80 (by decide) ?_
                      exact jn _ (by unfold mDone; rw [if_neg (Int32.not_le.mpr c_62), if_pos (Int32.not_le.mp c_75)])
                  · skip
                    refine lv_bipush (v := -10) hx hb dX5_copy_65 (by decide) ?_
                    refine lv_iload hx hb dX5_copy_67 (lv_at hl 0 rfl) ?_
                    refine lv_isub hx hb dX5_copy_69 ?_
                    refine lv_goto (tgt := 84) hx hb dX5_copy_70 (by decide) ?_
                    exact jn _ (by unfold mDone; rw [if_pos (Int32.not_lt.mp c_62)])
              · skip
                refine lv_bipush (v := -50) hx hb dX5_copy_41 (by decide) ?_
                exact ct_iret hx hb hr (vp_nar_int _) hlocks hK hw dX5_copy_43 (Nat.le_of_ble_eq_true rfl) (Nat.le_of_ble_eq_true rfl) (Or.inr (Or.inl ⟨⟨hq_6, hq_13, hq_21⟩, Int32.not_le.mp c_38, rfl, rfl⟩))
            · exact absurd c_24 (by decide)
          · skip
            refine lv_if_ne (tgt := 30) hx hb dX5_copy_24 (by decide) (fun c_24 => ?_) (fun c_24 => ?_)
            · exact absurd rfl c_24
            · skip
              refine lv_bipush (v := -99) hx hb dX5_copy_27 (by decide) ?_
              exact ct_iret hx hb hr (vp_nar_int _) hlocks hK hw dX5_copy_29 (Nat.le_of_ble_eq_true rfl) (Nat.le_of_ble_eq_true rfl) (Or.inl ⟨fun h => hq_21 h.2.2, rfl, rfl⟩)
      · skip
        refine lv_if_eq (tgt := 27) hx hb dX5_copy_16 (by decide) (fun c_16 => ?_) (fun c_16 => ?_)
        · skip
          refine lv_bipush (v := -99) hx hb dX5_copy_27 (by decide) ?_
          exact ct_iret hx hb hr (vp_nar_int _) hlocks hK hw dX5_copy_29 (Nat.le_of_ble_eq_true rfl) (Nat.le_of_ble_eq_true rfl) (Or.inl ⟨fun h => hq_13 h.2.1, rfl, rfl⟩)
        · exact absurd rfl c_16
  · skip
    refine lv_if_eq (tgt := 27) hx hb dX5_copy_9 (by decide) (fun c_9 => ?_) (fun c_9 => ?_)
    · skip
      refine lv_bipush (v := -99) hx hb dX5_copy_27 (by decide) ?_
      exact ct_iret hx hb hr (vp_nar_int _) hlocks hK hw dX5_copy_29 (Nat.le_of_ble_eq_true rfl) (Nat.le_of_ble_eq_true rfl) (Or.inl ⟨fun h => hq_6 h.1, rfl, rfl⟩)
    · exact absurd rfl c_9
