set_option maxHeartbeats 4000000 in
set_option maxRecDepth 100000 in
theorem lw_bind {p : Program} {l : Launch} {e : Env} {s : State} {m : MethodId} {below : List Frame} {meth : Method} {c : Code} {b L : Nat} {xs : Nat → Int32} {G : va_G} {Y : Nat → ClassId} {Q : State → Prop} {xm o : Nat} {adm : Nat → Nat} {H : Heap} {locs : List Loc} {cells slots k : Nat} {ls : Array Slot} {g : Nat → Int64} {h : PH} {ad dk : Nat → Nat} {BK : List Nat} {bS : Nat → Int32} {bN : Nat → Nat} {bV : Nat → Nat → Int64} {bT : Nat → Nat → Int32} {vA sA : Nat → Nat} {ink cop : Nat → Int32} {wai : Nat → Nat} {O : Nat → Nat → Ord} {nx he : Nat} {C : Nat → Nat → Int32} {tl : Nat → Int32} {d sc sz ik cp wt wa ch ct : Nat → Int32} {sg : Nat → Int64} {th : Int32}
    (F : CallFix p m c cL_law 8 s #[Value.ref b] wsL_law RL) (hK : kK G Y s) (hX : va_X b L xs s s.heap) (hbl : b < s.heap.size) (hk : 7 * k + 7 ≤ L) (hL : L ≤ 3584) (hl : lv_has ls 8 (lwLv b (ad 0) xm o k)) (hcells : cells ≤ 40 + 6 * k) (hslots : slots ≤ 1000 + 200 * k) (hC : CRep Y h ad (dk, (BK, bS, bN, bV, bT, vA, sA), (ink, cop, wai, O), (nx, he, C), tl)) (hS : Sim ad (dk, (BK, bS, bN, bV, bT, vA, sA), (ink, cop, wai, O), (nx, he, C), tl) (d, sc, sz, sg, ik, cp, wt, wa, ch, ct, th) (3 * k)) (hw : wW G (lA s) s.heap (lW Y xm adm o (d, sc, sz, sg, ik, cp, wt, wa, ch, ct, th) g h) H locs)
    (tail : ∀ (u' : MS) (g' : Nat → Int64) (h' : PH) (H' : Heap) (locs' : List Loc) (cells' slots' : Nat) (ls' : Array Slot), sOut Y ad h' u' (3 * k + 3) → wW G (lA s) s.heap (lW Y xm adm o u' g' h') H' locs' → lv_has ls' 8 (lwLv b (ad 0) xm o k) → cells' ≤ 46 + 6 * k → slots' ≤ 1200 + 200 * k → W p l e room_1 s m #[Value.ref b] below meth c H' locs' cells' slots' Q (F0 m 809 ls' [])) : W p l e room_1 s m #[Value.ref b] below meth c H locs cells slots Q (F0 m 116 ls []) := by
  obtain ⟨hx, hb, hml, hown, hts⟩ := id F
  have hA : ∀ q, s.heap.size ≤ q → lA s q := fun q h => h
  have hbA : ¬ lA s b := Nat.not_le.mpr hbl
  have f_x : pAt h (ad 0) (oX (ad 1) (ad 2) (ad 3) (ad 4) (ad 5) (ad 6)) := hC.1
  refine lv_aload_n hx hb dL_law_116 rfl (lv_at hl 3 rfl) ?_
  refine lw_arg (j := 1) (n := 1) (i0 := 4) (i4 := 0) hx hb hX hbl hbA hw.2.2 (by decide) hk hL hl rfl rfl (by decide) dL_law_117 dL_law_118 dL_law_120 dL_law_121 dL_law_122 ?_
  refine lw_arg (j := 2) (n := 2) (i0 := 4) (i4 := 0) hx hb hX hbl hbA hw.2.2 (by decide) hk hL hl rfl rfl (by decide) dL_law_123 dL_law_124 dL_law_126 dL_law_127 dL_law_128 ?_
  refine lw_arg (j := 3) (n := 3) (i0 := 4) (i4 := 0) hx hb hX hbl hbA hw.2.2 (by decide) hk hL hl rfl rfl (by decide) dL_law_129 dL_law_130 dL_law_132 dL_law_133 dL_law_134 ?_
  refine lw_callX (c_X4_bind l G Y h ad dk BK bS bN bV bT vA sA ink cop wai O nx he C tl (xs (7 * k + 1)) (xs (7 * k + 2)) (xs (7 * k + 3)) hC) F (cwV 3 hts gL_law_X4_bind rfl rfl rfl (by decide +kernel) ⟨Nat.le_of_ble_eq_true rfl, Nat.le_of_ble_eq_true rfl⟩) hK hw hA f_x rfl rfl hl.1 (Nat.le_of_ble_eq_true rfl) dL_law_135 ⟨show cells + 3 ≤ 601024 by omega, show slots + 83 ≤ 7293034 by omega⟩ (fun r1 h1 H1 locs1 hp1 hw1 => ?_)
  refine lv_aload_n hx hb dL_law_138 rfl (lv_at hl 2 rfl) ?_
  refine lw_arg (j := 1) (n := 1) (i0 := 4) (i4 := 0) hx hb hX hbl hbA hw1.2.2 (by decide) hk hL hl rfl rfl (by decide) dL_law_139 dL_law_140 dL_law_142 dL_law_143 dL_law_144 ?_
  refine lw_arg (j := 2) (n := 2) (i0 := 4) (i4 := 0) hx hb hX hbl hbA hw1.2.2 (by decide) hk hL hl rfl rfl (by decide) dL_law_145 dL_law_146 dL_law_148 dL_law_149 dL_law_150 ?_
  refine lw_arg (j := 3) (n := 3) (i0 := 4) (i4 := 0) hx hb hX hbl hbA hw1.2.2 (by decide) hk hL hl rfl rfl (by decide) dL_law_151 dL_law_152 dL_law_154 dL_law_155 dL_law_156 ?_
  refine lw_callM (c_m_bind l G Y xm adm d sc sz sg ik cp wt wa ch ct th (xs (7 * k + 1)) (xs (7 * k + 2)) (xs (7 * k + 3)) ) F (cwV 3 hts gL_law_X5_bind rfl rfl rfl (by decide +kernel) ⟨Nat.le_of_ble_eq_true rfl, Nat.le_of_ble_eq_true rfl⟩) hK hw1 hA rfl rfl hl.1 (Nat.le_of_ble_eq_true rfl) dL_law_157 ⟨show cells + 3 + 0 ≤ 601024 by omega, show slots + 83 + 0 ≤ 7293034 by omega⟩ (fun r2 u2 H2 locs2 hp2 hw2 => ?_)
  obtain ⟨er, hout⟩ := sim_bind hC hS hp1 hp2
  exact lv_icmp_eq (tgt := 809) hx hb dL_law_160 (by decide) (fun _ => tail u2 g h1 H2 locs2 _ _ ls (hout.up (by omega)) hw2 hl (show cells + 3 + 0 ≤ 46 + 6 * k by omega) (show slots + 83 + 0 ≤ 1200 + 200 * k by omega)) (fun c9 => absurd er c9)

set_option maxHeartbeats 4000000 in
set_option maxRecDepth 100000 in
theorem lw_stone {p : Program} {l : Launch} {e : Env} {s : State} {m : MethodId} {below : List Frame} {meth : Method} {c : Code} {b L : Nat} {xs : Nat → Int32} {G : va_G} {Y : Nat → ClassId} {Q : State → Prop} {xm o : Nat} {adm : Nat → Nat} {H : Heap} {locs : List Loc} {cells slots k : Nat} {ls : Array Slot} {g : Nat → Int64} {h : PH} {ad dk : Nat → Nat} {BK : List Nat} {bS : Nat → Int32} {bN : Nat → Nat} {bV : Nat → Nat → Int64} {bT : Nat → Nat → Int32} {vA sA : Nat → Nat} {ink cop : Nat → Int32} {wai : Nat → Nat} {O : Nat → Nat → Ord} {nx he : Nat} {C : Nat → Nat → Int32} {tl : Nat → Int32} {d sc sz ik cp wt wa ch ct : Nat → Int32} {sg : Nat → Int64} {th : Int32}
    (F : CallFix p m c cL_law 8 s #[Value.ref b] wsL_law RL) (hK : kK G Y s) (hX : va_X b L xs s s.heap) (hbl : b < s.heap.size) (hk : 7 * k + 7 ≤ L) (hL : L ≤ 3584) (hl : lv_has ls 8 (lwLv b (ad 0) xm o k)) (hcells : cells ≤ 40 + 6 * k) (hslots : slots ≤ 1000 + 200 * k) (hC : CRep Y h ad (dk, (BK, bS, bN, bV, bT, vA, sA), (ink, cop, wai, O), (nx, he, C), tl)) (hS : Sim ad (dk, (BK, bS, bN, bV, bT, vA, sA), (ink, cop, wai, O), (nx, he, C), tl) (d, sc, sz, sg, ik, cp, wt, wa, ch, ct, th) (3 * k)) (hw : wW G (lA s) s.heap (lW Y xm adm o (d, sc, sz, sg, ik, cp, wt, wa, ch, ct, th) g h) H locs)
    (tail : ∀ (u' : MS) (g' : Nat → Int64) (h' : PH) (H' : Heap) (locs' : List Loc) (cells' slots' : Nat) (ls' : Array Slot), sOut Y ad h' u' (3 * k + 3) → wW G (lA s) s.heap (lW Y xm adm o u' g' h') H' locs' → lv_has ls' 8 (lwLv b (ad 0) xm o k) → cells' ≤ 46 + 6 * k → slots' ≤ 1200 + 200 * k → W p l e room_1 s m #[Value.ref b] below meth c H' locs' cells' slots' Q (F0 m 809 ls' [])) : W p l e room_1 s m #[Value.ref b] below meth c H locs cells slots Q (F0 m 165 ls []) := by
  obtain ⟨hx, hb, hml, hown, hts⟩ := id F
  have hA : ∀ q, s.heap.size ≤ q → lA s q := fun q h => h
  have hbA : ¬ lA s b := Nat.not_le.mpr hbl
  have f_x : pAt h (ad 0) (oX (ad 1) (ad 2) (ad 3) (ad 4) (ad 5) (ad 6)) := hC.1
  refine lv_aload_n hx hb dL_law_165 rfl (lv_at hl 3 rfl) ?_
  refine lw_arg (j := 1) (n := 1) (i0 := 4) (i4 := 0) hx hb hX hbl hbA hw.2.2 (by decide) hk hL hl rfl rfl (by decide) dL_law_166 dL_law_167 dL_law_169 dL_law_170 dL_law_171 ?_
  refine lw_callX (c_X4_stone l G Y h ad dk BK bS bN bV bT vA sA ink cop wai O nx he C tl (xs (7 * k + 1)) hC) F (cwV 1 hts gL_law_X4_stone rfl rfl rfl (by decide +kernel) ⟨Nat.le_of_ble_eq_true rfl, Nat.le_of_ble_eq_true rfl⟩) hK hw hA f_x rfl rfl hl.1 (Nat.le_of_ble_eq_true rfl) dL_law_172 ⟨show cells + 0 ≤ 601024 by omega, show slots + 0 ≤ 7293034 by omega⟩ (fun r1 h1 H1 locs1 hp1 hw1 => ?_)
  refine lv_aload_n hx hb dL_law_175 rfl (lv_at hl 2 rfl) ?_
  refine lw_arg (j := 1) (n := 1) (i0 := 4) (i4 := 0) hx hb hX hbl hbA hw1.2.2 (by decide) hk hL hl rfl rfl (by decide) dL_law_176 dL_law_177 dL_law_179 dL_law_180 dL_law_181 ?_
  refine lw_callM (c_m_stone l G Y xm adm d sc sz sg ik cp wt wa ch ct th (xs (7 * k + 1)) ) F (cwV 1 hts gL_law_X5_stone rfl rfl rfl (by decide +kernel) ⟨Nat.le_of_ble_eq_true rfl, Nat.le_of_ble_eq_true rfl⟩) hK hw1 hA rfl rfl hl.1 (Nat.le_of_ble_eq_true rfl) dL_law_182 ⟨show cells + 0 + 0 ≤ 601024 by omega, show slots + 0 + 0 ≤ 7293034 by omega⟩ (fun r2 u2 H2 locs2 hp2 hw2 => ?_)
  obtain ⟨er, hout⟩ := sim_stone hC hS hp1 hp2
  exact lv_icmp_eq (tgt := 809) hx hb dL_law_185 (by decide) (fun _ => tail u2 g h1 H2 locs2 _ _ ls (hout.up (by omega)) hw2 hl (show cells + 0 + 0 ≤ 46 + 6 * k by omega) (show slots + 0 + 0 ≤ 1200 + 200 * k by omega)) (fun c9 => absurd er c9)

set_option maxHeartbeats 4000000 in
set_option maxRecDepth 100000 in
theorem lw_share {p : Program} {l : Launch} {e : Env} {s : State} {m : MethodId} {below : List Frame} {meth : Method} {c : Code} {b L : Nat} {xs : Nat → Int32} {G : va_G} {Y : Nat → ClassId} {Q : State → Prop} {xm o : Nat} {adm : Nat → Nat} {H : Heap} {locs : List Loc} {cells slots k : Nat} {ls : Array Slot} {g : Nat → Int64} {h : PH} {ad dk : Nat → Nat} {BK : List Nat} {bS : Nat → Int32} {bN : Nat → Nat} {bV : Nat → Nat → Int64} {bT : Nat → Nat → Int32} {vA sA : Nat → Nat} {ink cop : Nat → Int32} {wai : Nat → Nat} {O : Nat → Nat → Ord} {nx he : Nat} {C : Nat → Nat → Int32} {tl : Nat → Int32} {d sc sz ik cp wt wa ch ct : Nat → Int32} {sg : Nat → Int64} {th : Int32}
    (F : CallFix p m c cL_law 8 s #[Value.ref b] wsL_law RL) (hK : kK G Y s) (hX : va_X b L xs s s.heap) (hbl : b < s.heap.size) (hk : 7 * k + 7 ≤ L) (hL : L ≤ 3584) (hl : lv_has ls 8 (lwLv b (ad 0) xm o k)) (hcells : cells ≤ 40 + 6 * k) (hslots : slots ≤ 1000 + 200 * k) (hC : CRep Y h ad (dk, (BK, bS, bN, bV, bT, vA, sA), (ink, cop, wai, O), (nx, he, C), tl)) (hS : Sim ad (dk, (BK, bS, bN, bV, bT, vA, sA), (ink, cop, wai, O), (nx, he, C), tl) (d, sc, sz, sg, ik, cp, wt, wa, ch, ct, th) (3 * k)) (hw : wW G (lA s) s.heap (lW Y xm adm o (d, sc, sz, sg, ik, cp, wt, wa, ch, ct, th) g h) H locs)
    (tail : ∀ (u' : MS) (g' : Nat → Int64) (h' : PH) (H' : Heap) (locs' : List Loc) (cells' slots' : Nat) (ls' : Array Slot), sOut Y ad h' u' (3 * k + 3) → wW G (lA s) s.heap (lW Y xm adm o u' g' h') H' locs' → lv_has ls' 8 (lwLv b (ad 0) xm o k) → cells' ≤ 46 + 6 * k → slots' ≤ 1200 + 200 * k → W p l e room_1 s m #[Value.ref b] below meth c H' locs' cells' slots' Q (F0 m 809 ls' [])) : W p l e room_1 s m #[Value.ref b] below meth c H locs cells slots Q (F0 m 190 ls []) := by
  obtain ⟨hx, hb, hml, hown, hts⟩ := id F
  have hA : ∀ q, s.heap.size ≤ q → lA s q := fun q h => h
  have hbA : ¬ lA s b := Nat.not_le.mpr hbl
  have f_x : pAt h (ad 0) (oX (ad 1) (ad 2) (ad 3) (ad 4) (ad 5) (ad 6)) := hC.1
  refine lv_aload_n hx hb dL_law_190 rfl (lv_at hl 3 rfl) ?_
  refine lw_arg (j := 1) (n := 1) (i0 := 4) (i4 := 0) hx hb hX hbl hbA hw.2.2 (by decide) hk hL hl rfl rfl (by decide) dL_law_191 dL_law_192 dL_law_194 dL_law_195 dL_law_196 ?_
  refine lw_arg (j := 2) (n := 2) (i0 := 4) (i4 := 0) hx hb hX hbl hbA hw.2.2 (by decide) hk hL hl rfl rfl (by decide) dL_law_197 dL_law_198 dL_law_200 dL_law_201 dL_law_202 ?_
  refine lw_callX (c_X4_share l G Y h ad dk BK bS bN bV bT vA sA ink cop wai O nx he C tl (xs (7 * k + 1)) (xs (7 * k + 2)) hC) F (cwV 2 hts gL_law_X4_share rfl rfl rfl (by decide +kernel) ⟨Nat.le_of_ble_eq_true rfl, Nat.le_of_ble_eq_true rfl⟩) hK hw hA f_x rfl rfl hl.1 (Nat.le_of_ble_eq_true rfl) dL_law_203 ⟨show cells + 0 ≤ 601024 by omega, show slots + 0 ≤ 7293034 by omega⟩ (fun r1 h1 H1 locs1 hp1 hw1 => ?_)
  refine lv_aload_n hx hb dL_law_206 rfl (lv_at hl 2 rfl) ?_
  refine lw_arg (j := 1) (n := 1) (i0 := 4) (i4 := 0) hx hb hX hbl hbA hw1.2.2 (by decide) hk hL hl rfl rfl (by decide) dL_law_207 dL_law_208 dL_law_210 dL_law_211 dL_law_212 ?_
  refine lw_arg (j := 2) (n := 2) (i0 := 4) (i4 := 0) hx hb hX hbl hbA hw1.2.2 (by decide) hk hL hl rfl rfl (by decide) dL_law_213 dL_law_214 dL_law_216 dL_law_217 dL_law_218 ?_
  refine lw_callM (c_m_share l G Y xm adm d sc sz sg ik cp wt wa ch ct th (xs (7 * k + 1)) (xs (7 * k + 2)) ) F (cwV 2 hts gL_law_X5_share rfl rfl rfl (by decide +kernel) ⟨Nat.le_of_ble_eq_true rfl, Nat.le_of_ble_eq_true rfl⟩) hK hw1 hA rfl rfl hl.1 (Nat.le_of_ble_eq_true rfl) dL_law_219 ⟨show cells + 0 + 0 ≤ 601024 by omega, show slots + 0 + 0 ≤ 7293034 by omega⟩ (fun r2 u2 H2 locs2 hp2 hw2 => ?_)
  obtain ⟨er, hout⟩ := sim_share hC hS hp1 hp2
  exact lv_icmp_eq (tgt := 809) hx hb dL_law_222 (by decide) (fun _ => tail u2 g h1 H2 locs2 _ _ ls (hout.up (by omega)) hw2 hl (show cells + 0 + 0 ≤ 46 + 6 * k by omega) (show slots + 0 + 0 ≤ 1200 + 200 * k by omega)) (fun c9 => absurd er c9)

set_option maxHeartbeats 4000000 in
set_option maxRecDepth 100000 in
theorem lw_clear {p : Program} {l : Launch} {e : Env} {s : State} {m : MethodId} {below : List Frame} {meth : Method} {c : Code} {b L : Nat} {xs : Nat → Int32} {G : va_G} {Y : Nat → ClassId} {Q : State → Prop} {xm o : Nat} {adm : Nat → Nat} {H : Heap} {locs : List Loc} {cells slots k : Nat} {ls : Array Slot} {g : Nat → Int64} {h : PH} {ad dk : Nat → Nat} {BK : List Nat} {bS : Nat → Int32} {bN : Nat → Nat} {bV : Nat → Nat → Int64} {bT : Nat → Nat → Int32} {vA sA : Nat → Nat} {ink cop : Nat → Int32} {wai : Nat → Nat} {O : Nat → Nat → Ord} {nx he : Nat} {C : Nat → Nat → Int32} {tl : Nat → Int32} {d sc sz ik cp wt wa ch ct : Nat → Int32} {sg : Nat → Int64} {th : Int32}
    (F : CallFix p m c cL_law 8 s #[Value.ref b] wsL_law RL) (hK : kK G Y s) (hX : va_X b L xs s s.heap) (hbl : b < s.heap.size) (hk : 7 * k + 7 ≤ L) (hL : L ≤ 3584) (hl : lv_has ls 8 (lwLv b (ad 0) xm o k)) (hcells : cells ≤ 40 + 6 * k) (hslots : slots ≤ 1000 + 200 * k) (hC : CRep Y h ad (dk, (BK, bS, bN, bV, bT, vA, sA), (ink, cop, wai, O), (nx, he, C), tl)) (hS : Sim ad (dk, (BK, bS, bN, bV, bT, vA, sA), (ink, cop, wai, O), (nx, he, C), tl) (d, sc, sz, sg, ik, cp, wt, wa, ch, ct, th) (3 * k)) (hw : wW G (lA s) s.heap (lW Y xm adm o (d, sc, sz, sg, ik, cp, wt, wa, ch, ct, th) g h) H locs)
    (tail : ∀ (u' : MS) (g' : Nat → Int64) (h' : PH) (H' : Heap) (locs' : List Loc) (cells' slots' : Nat) (ls' : Array Slot), sOut Y ad h' u' (3 * k + 3) → wW G (lA s) s.heap (lW Y xm adm o u' g' h') H' locs' → lv_has ls' 8 (lwLv b (ad 0) xm o k) → cells' ≤ 46 + 6 * k → slots' ≤ 1200 + 200 * k → W p l e room_1 s m #[Value.ref b] below meth c H' locs' cells' slots' Q (F0 m 809 ls' [])) : W p l e room_1 s m #[Value.ref b] below meth c H locs cells slots Q (F0 m 227 ls []) := by
  obtain ⟨hx, hb, hml, hown, hts⟩ := id F
  have hA : ∀ q, s.heap.size ≤ q → lA s q := fun q h => h
  have hbA : ¬ lA s b := Nat.not_le.mpr hbl
  have f_x : pAt h (ad 0) (oX (ad 1) (ad 2) (ad 3) (ad 4) (ad 5) (ad 6)) := hC.1
  refine lv_aload_n hx hb dL_law_227 rfl (lv_at hl 3 rfl) ?_
  refine lw_arg (j := 1) (n := 1) (i0 := 4) (i4 := 0) hx hb hX hbl hbA hw.2.2 (by decide) hk hL hl rfl rfl (by decide) dL_law_228 dL_law_229 dL_law_231 dL_law_232 dL_law_233 ?_
  refine lw_callX (c_X4_clear l G Y h ad dk BK bS bN bV bT vA sA ink cop wai O nx he C tl (xs (7 * k + 1)) hC) F (cwV 1 hts gL_law_X4_clear rfl rfl rfl (by decide +kernel) ⟨Nat.le_of_ble_eq_true rfl, Nat.le_of_ble_eq_true rfl⟩) hK hw hA f_x rfl rfl hl.1 (Nat.le_of_ble_eq_true rfl) dL_law_234 ⟨show cells + 0 ≤ 601024 by omega, show slots + 0 ≤ 7293034 by omega⟩ (fun r1 h1 H1 locs1 hp1 hw1 => ?_)
  refine lv_aload_n hx hb dL_law_237 rfl (lv_at hl 2 rfl) ?_
  refine lw_arg (j := 1) (n := 1) (i0 := 4) (i4 := 0) hx hb hX hbl hbA hw1.2.2 (by decide) hk hL hl rfl rfl (by decide) dL_law_238 dL_law_239 dL_law_241 dL_law_242 dL_law_243 ?_
  refine lw_callM (c_m_clear l G Y xm adm d sc sz sg ik cp wt wa ch ct th (xs (7 * k + 1)) ) F (cwV 1 hts gL_law_X5_clear rfl rfl rfl (by decide +kernel) ⟨Nat.le_of_ble_eq_true rfl, Nat.le_of_ble_eq_true rfl⟩) hK hw1 hA rfl rfl hl.1 (Nat.le_of_ble_eq_true rfl) dL_law_244 ⟨show cells + 0 + 0 ≤ 601024 by omega, show slots + 0 + 0 ≤ 7293034 by omega⟩ (fun r2 u2 H2 locs2 hp2 hw2 => ?_)
  obtain ⟨er, hout⟩ := sim_clear hC hS hp1 hp2
  exact lv_icmp_eq (tgt := 809) hx hb dL_law_247 (by decide) (fun _ => tail u2 g h1 H2 locs2 _ _ ls (hout.up (by omega)) hw2 hl (show cells + 0 + 0 ≤ 46 + 6 * k by omega) (show slots + 0 + 0 ≤ 1200 + 200 * k by omega)) (fun c9 => absurd er c9)

set_option maxHeartbeats 4000000 in
set_option maxRecDepth 100000 in
theorem lw_write {p : Program} {l : Launch} {e : Env} {s : State} {m : MethodId} {below : List Frame} {meth : Method} {c : Code} {b L : Nat} {xs : Nat → Int32} {G : va_G} {Y : Nat → ClassId} {Q : State → Prop} {xm o : Nat} {adm : Nat → Nat} {H : Heap} {locs : List Loc} {cells slots k : Nat} {ls : Array Slot} {g : Nat → Int64} {h : PH} {ad dk : Nat → Nat} {BK : List Nat} {bS : Nat → Int32} {bN : Nat → Nat} {bV : Nat → Nat → Int64} {bT : Nat → Nat → Int32} {vA sA : Nat → Nat} {ink cop : Nat → Int32} {wai : Nat → Nat} {O : Nat → Nat → Ord} {nx he : Nat} {C : Nat → Nat → Int32} {tl : Nat → Int32} {d sc sz ik cp wt wa ch ct : Nat → Int32} {sg : Nat → Int64} {th : Int32}
    (F : CallFix p m c cL_law 8 s #[Value.ref b] wsL_law RL) (hK : kK G Y s) (hX : va_X b L xs s s.heap) (hbl : b < s.heap.size) (hk : 7 * k + 7 ≤ L) (hL : L ≤ 3584) (hl : lv_has ls 8 (lwLv b (ad 0) xm o k)) (hcells : cells ≤ 40 + 6 * k) (hslots : slots ≤ 1000 + 200 * k) (hC : CRep Y h ad (dk, (BK, bS, bN, bV, bT, vA, sA), (ink, cop, wai, O), (nx, he, C), tl)) (hS : Sim ad (dk, (BK, bS, bN, bV, bT, vA, sA), (ink, cop, wai, O), (nx, he, C), tl) (d, sc, sz, sg, ik, cp, wt, wa, ch, ct, th) (3 * k)) (hw : wW G (lA s) s.heap (lW Y xm adm o (d, sc, sz, sg, ik, cp, wt, wa, ch, ct, th) g h) H locs)
    (tail : ∀ (u' : MS) (g' : Nat → Int64) (h' : PH) (H' : Heap) (locs' : List Loc) (cells' slots' : Nat) (ls' : Array Slot), sOut Y ad h' u' (3 * k + 3) → wW G (lA s) s.heap (lW Y xm adm o u' g' h') H' locs' → lv_has ls' 8 (lwLv b (ad 0) xm o k) → cells' ≤ 46 + 6 * k → slots' ≤ 1200 + 200 * k → W p l e room_1 s m #[Value.ref b] below meth c H' locs' cells' slots' Q (F0 m 809 ls' [])) : W p l e room_1 s m #[Value.ref b] below meth c H locs cells slots Q (F0 m 252 ls []) := by
  obtain ⟨hx, hb, hml, hown, hts⟩ := id F
  have hA : ∀ q, s.heap.size ≤ q → lA s q := fun q h => h
  have hbA : ¬ lA s b := Nat.not_le.mpr hbl
  have f_x : pAt h (ad 0) (oX (ad 1) (ad 2) (ad 3) (ad 4) (ad 5) (ad 6)) := hC.1
  have hcl : Cond.constantLong RL 40 (4294967295) ∈ wsL_law := by decide +kernel
  refine lv_aload_n hx hb dL_law_252 rfl (lv_at hl 3 rfl) ?_
  refine lw_arg (j := 1) (n := 1) (i0 := 4) (i4 := 0) hx hb hX hbl hbA hw.2.2 (by decide) hk hL hl rfl rfl (by decide) dL_law_253 dL_law_254 dL_law_256 dL_law_257 dL_law_258 ?_
  refine lw_arg (j := 2) (n := 2) (i0 := 4) (i4 := 0) hx hb hX hbl hbA hw.2.2 (by decide) hk hL hl rfl rfl (by decide) dL_law_259 dL_law_260 dL_law_262 dL_law_263 dL_law_264 ?_
  refine lw_arg (j := 3) (n := 3) (i0 := 4) (i4 := 0) hx hb hX hbl hbA hw.2.2 (by decide) hk hL hl rfl rfl (by decide) dL_law_265 dL_law_266 dL_law_268 dL_law_269 dL_law_270 ?_
  refine lw_arg (j := 4) (n := 4) (i0 := 4) (i4 := 0) hx hb hX hbl hbA hw.2.2 (by decide) hk hL hl rfl rfl (by decide) dL_law_271 dL_law_272 dL_law_274 dL_law_275 dL_law_276 ?_
  refine lv_i2l hx hb dL_law_277 rfl ?_
  refine lv_bipush (v := 32) hx hb dL_law_278 (by decide) ?_
  refine lv_lshl hx hb dL_law_280 rfl ?_
  refine lw_arg (j := 5) (n := 5) (i0 := 4) (i4 := 0) hx hb hX hbl hbA hw.2.2 (by decide) hk hL hl rfl rfl (by decide) dL_law_281 dL_law_282 dL_law_284 dL_law_285 dL_law_286 ?_
  refine lv_i2l hx hb dL_law_287 rfl ?_
  refine lv_ldc2 hx hb hown (hts (.constantLong RL 40 (4294967295)) hcl) dL_law_288 ?_
  refine lv_land hx hb dL_law_291 ?_
  refine lv_lor hx hb dL_law_292 ?_
  refine lw_callX (c_X4_write l G Y h ad dk BK bS bN bV bT vA sA ink cop wai O nx he C tl (xs (7 * k + 1)) (xs (7 * k + 2)) (xs (7 * k + 3)) _ hC) F (cwV 4 hts gL_law_X4_write rfl rfl rfl (by decide +kernel) ⟨Nat.le_of_ble_eq_true rfl, Nat.le_of_ble_eq_true rfl⟩) hK hw hA f_x rfl rfl hl.1 (Nat.le_of_ble_eq_true rfl) dL_law_293 ⟨show cells + 0 ≤ 601024 by omega, show slots + 0 ≤ 7293034 by omega⟩ (fun r1 h1 H1 locs1 hp1 hw1 => ?_)
  refine lv_aload_n hx hb dL_law_296 rfl (lv_at hl 2 rfl) ?_
  refine lw_arg (j := 1) (n := 1) (i0 := 4) (i4 := 0) hx hb hX hbl hbA hw1.2.2 (by decide) hk hL hl rfl rfl (by decide) dL_law_297 dL_law_298 dL_law_300 dL_law_301 dL_law_302 ?_
  refine lw_arg (j := 2) (n := 2) (i0 := 4) (i4 := 0) hx hb hX hbl hbA hw1.2.2 (by decide) hk hL hl rfl rfl (by decide) dL_law_303 dL_law_304 dL_law_306 dL_law_307 dL_law_308 ?_
  refine lw_arg (j := 3) (n := 3) (i0 := 4) (i4 := 0) hx hb hX hbl hbA hw1.2.2 (by decide) hk hL hl rfl rfl (by decide) dL_law_309 dL_law_310 dL_law_312 dL_law_313 dL_law_314 ?_
  refine lw_arg (j := 4) (n := 4) (i0 := 4) (i4 := 0) hx hb hX hbl hbA hw1.2.2 (by decide) hk hL hl rfl rfl (by decide) dL_law_315 dL_law_316 dL_law_318 dL_law_319 dL_law_320 ?_
  refine lv_i2l hx hb dL_law_321 rfl ?_
  refine lv_bipush (v := 32) hx hb dL_law_322 (by decide) ?_
  refine lv_lshl hx hb dL_law_324 rfl ?_
  refine lw_arg (j := 5) (n := 5) (i0 := 4) (i4 := 0) hx hb hX hbl hbA hw1.2.2 (by decide) hk hL hl rfl rfl (by decide) dL_law_325 dL_law_326 dL_law_328 dL_law_329 dL_law_330 ?_
  refine lv_i2l hx hb dL_law_331 rfl ?_
  refine lv_ldc2 hx hb hown (hts (.constantLong RL 40 (4294967295)) hcl) dL_law_332 ?_
  refine lv_land hx hb dL_law_335 ?_
  refine lv_lor hx hb dL_law_336 ?_
  refine lw_callM (c_m_write l G Y xm adm d sc sz sg ik cp wt wa ch ct th (xs (7 * k + 1)) (xs (7 * k + 2)) (xs (7 * k + 3)) _ hS.dOK hS.zOK (fun a9 q9 z9 => hS.k0 a9 q9 z9)) F (cwV 4 hts gL_law_X5_write rfl rfl rfl (by decide +kernel) ⟨Nat.le_of_ble_eq_true rfl, Nat.le_of_ble_eq_true rfl⟩) hK hw1 hA rfl rfl hl.1 (Nat.le_of_ble_eq_true rfl) dL_law_337 ⟨show cells + 0 + 0 ≤ 601024 by omega, show slots + 0 + 0 ≤ 7293034 by omega⟩ (fun r2 u2 H2 locs2 hp2 hw2 => ?_)
  obtain ⟨er, hout⟩ := sim_write hC hS hp1 hp2
  exact lv_icmp_eq (tgt := 809) hx hb dL_law_340 (by decide) (fun _ => tail u2 g h1 H2 locs2 _ _ ls (hout.up (by omega)) hw2 hl (show cells + 0 + 0 ≤ 46 + 6 * k by omega) (show slots + 0 + 0 ≤ 1200 + 200 * k by omega)) (fun c9 => absurd er c9)

set_option maxHeartbeats 4000000 in
set_option maxRecDepth 100000 in
theorem lw_copy {p : Program} {l : Launch} {e : Env} {s : State} {m : MethodId} {below : List Frame} {meth : Method} {c : Code} {b L : Nat} {xs : Nat → Int32} {G : va_G} {Y : Nat → ClassId} {Q : State → Prop} {xm o : Nat} {adm : Nat → Nat} {H : Heap} {locs : List Loc} {cells slots k : Nat} {ls : Array Slot} {g : Nat → Int64} {h : PH} {ad dk : Nat → Nat} {BK : List Nat} {bS : Nat → Int32} {bN : Nat → Nat} {bV : Nat → Nat → Int64} {bT : Nat → Nat → Int32} {vA sA : Nat → Nat} {ink cop : Nat → Int32} {wai : Nat → Nat} {O : Nat → Nat → Ord} {nx he : Nat} {C : Nat → Nat → Int32} {tl : Nat → Int32} {d sc sz ik cp wt wa ch ct : Nat → Int32} {sg : Nat → Int64} {th : Int32}
    (F : CallFix p m c cL_law 8 s #[Value.ref b] wsL_law RL) (hK : kK G Y s) (hX : va_X b L xs s s.heap) (hbl : b < s.heap.size) (hk : 7 * k + 7 ≤ L) (hL : L ≤ 3584) (hl : lv_has ls 8 (lwLv b (ad 0) xm o k)) (hcells : cells ≤ 40 + 6 * k) (hslots : slots ≤ 1000 + 200 * k) (hC : CRep Y h ad (dk, (BK, bS, bN, bV, bT, vA, sA), (ink, cop, wai, O), (nx, he, C), tl)) (hS : Sim ad (dk, (BK, bS, bN, bV, bT, vA, sA), (ink, cop, wai, O), (nx, he, C), tl) (d, sc, sz, sg, ik, cp, wt, wa, ch, ct, th) (3 * k)) (hw : wW G (lA s) s.heap (lW Y xm adm o (d, sc, sz, sg, ik, cp, wt, wa, ch, ct, th) g h) H locs)
    (tail : ∀ (u' : MS) (g' : Nat → Int64) (h' : PH) (H' : Heap) (locs' : List Loc) (cells' slots' : Nat) (ls' : Array Slot), sOut Y ad h' u' (3 * k + 3) → wW G (lA s) s.heap (lW Y xm adm o u' g' h') H' locs' → lv_has ls' 8 (lwLv b (ad 0) xm o k) → cells' ≤ 46 + 6 * k → slots' ≤ 1200 + 200 * k → W p l e room_1 s m #[Value.ref b] below meth c H' locs' cells' slots' Q (F0 m 809 ls' [])) : W p l e room_1 s m #[Value.ref b] below meth c H locs cells slots Q (F0 m 345 ls []) := by
  obtain ⟨hx, hb, hml, hown, hts⟩ := id F
  have hA : ∀ q, s.heap.size ≤ q → lA s q := fun q h => h
  have hbA : ¬ lA s b := Nat.not_le.mpr hbl
  have f_x : pAt h (ad 0) (oX (ad 1) (ad 2) (ad 3) (ad 4) (ad 5) (ad 6)) := hC.1
  obtain ⟨c0, hc0, hc0b⟩ := hS.c0 (by omega)
  refine lv_aload_n hx hb dL_law_345 rfl (lv_at hl 3 rfl) ?_
  refine lw_arg (j := 1) (n := 1) (i0 := 4) (i4 := 0) hx hb hX hbl hbA hw.2.2 (by decide) hk hL hl rfl rfl (by decide) dL_law_346 dL_law_347 dL_law_349 dL_law_350 dL_law_351 ?_
  refine lw_arg (j := 2) (n := 2) (i0 := 4) (i4 := 0) hx hb hX hbl hbA hw.2.2 (by decide) hk hL hl rfl rfl (by decide) dL_law_352 dL_law_353 dL_law_355 dL_law_356 dL_law_357 ?_
  refine lw_arg (j := 3) (n := 3) (i0 := 4) (i4 := 0) hx hb hX hbl hbA hw.2.2 (by decide) hk hL hl rfl rfl (by decide) dL_law_358 dL_law_359 dL_law_361 dL_law_362 dL_law_363 ?_
  refine lw_arg (j := 4) (n := 4) (i0 := 4) (i4 := 0) hx hb hX hbl hbA hw.2.2 (by decide) hk hL hl rfl rfl (by decide) dL_law_364 dL_law_365 dL_law_367 dL_law_368 dL_law_369 ?_
  refine lw_arg (j := 5) (n := 5) (i0 := 4) (i4 := 0) hx hb hX hbl hbA hw.2.2 (by decide) hk hL hl rfl rfl (by decide) dL_law_370 dL_law_371 dL_law_373 dL_law_374 dL_law_375 ?_
  refine lw_arg6 (i0 := 4) (i4 := 0) hx hb hX hbl hbA hw.2.2 hk hL hl rfl rfl dL_law_376 dL_law_377 dL_law_379 dL_law_381 dL_law_382 ?_
  refine lw_callX (c_X4_copy l G Y h ad dk BK bS bN bV bT vA sA ink cop wai O nx he C tl (xs (7 * k + 1)) (xs (7 * k + 2)) (xs (7 * k + 3)) (xs (7 * k + 4)) (xs (7 * k + 5)) (xs (7 * k + 6)) hC) F (cwV 6 hts gL_law_X4_copy rfl rfl rfl (by decide +kernel) ⟨Nat.le_of_ble_eq_true rfl, Nat.le_of_ble_eq_true rfl⟩) hK hw hA f_x rfl rfl hl.1 (Nat.le_of_ble_eq_true rfl) dL_law_383 ⟨show cells + 1 ≤ 601024 by omega, show slots + 6 ≤ 7293034 by omega⟩ (fun r1 h1 H1 locs1 hp1 hw1 => ?_)
  refine lv_aload_n hx hb dL_law_386 rfl (lv_at hl 2 rfl) ?_
  refine lw_arg (j := 1) (n := 1) (i0 := 4) (i4 := 0) hx hb hX hbl hbA hw1.2.2 (by decide) hk hL hl rfl rfl (by decide) dL_law_387 dL_law_388 dL_law_390 dL_law_391 dL_law_392 ?_
  refine lw_arg (j := 2) (n := 2) (i0 := 4) (i4 := 0) hx hb hX hbl hbA hw1.2.2 (by decide) hk hL hl rfl rfl (by decide) dL_law_393 dL_law_394 dL_law_396 dL_law_397 dL_law_398 ?_
  refine lw_arg (j := 3) (n := 3) (i0 := 4) (i4 := 0) hx hb hX hbl hbA hw1.2.2 (by decide) hk hL hl rfl rfl (by decide) dL_law_399 dL_law_400 dL_law_402 dL_law_403 dL_law_404 ?_
  refine lw_arg (j := 4) (n := 4) (i0 := 4) (i4 := 0) hx hb hX hbl hbA hw1.2.2 (by decide) hk hL hl rfl rfl (by decide) dL_law_405 dL_law_406 dL_law_408 dL_law_409 dL_law_410 ?_
  refine lw_arg (j := 5) (n := 5) (i0 := 4) (i4 := 0) hx hb hX hbl hbA hw1.2.2 (by decide) hk hL hl rfl rfl (by decide) dL_law_411 dL_law_412 dL_law_414 dL_law_415 dL_law_416 ?_
  refine lw_arg6 (i0 := 4) (i4 := 0) hx hb hX hbl hbA hw1.2.2 hk hL hl rfl rfl dL_law_417 dL_law_418 dL_law_420 dL_law_422 dL_law_423 ?_
  refine lw_callM (c_m_copy l G Y xm adm d sc sz sg ik cp wt wa ch ct th (xs (7 * k + 1)) (xs (7 * k + 2)) (xs (7 * k + 3)) (xs (7 * k + 4)) (xs (7 * k + 5)) (xs (7 * k + 6)) hS.dOK hS.zOK c0 hc0) F (cwV 6 hts gL_law_X5_copy rfl rfl rfl (by decide +kernel) ⟨Nat.le_of_ble_eq_true rfl, Nat.le_of_ble_eq_true rfl⟩) hK hw1 hA rfl rfl hl.1 (Nat.le_of_ble_eq_true rfl) dL_law_424 ⟨show cells + 1 + 0 ≤ 601024 by omega, show slots + 6 + 0 ≤ 7293034 by omega⟩ (fun r2 u2 H2 locs2 hp2 hw2 => ?_)
  obtain ⟨er, hout⟩ := sim_copy hC (by omega) hS hp1 hp2
  exact lv_icmp_eq (tgt := 809) hx hb dL_law_427 (by decide) (fun _ => tail u2 g h1 H2 locs2 _ _ ls (hout.up (by omega)) hw2 hl (show cells + 1 + 0 ≤ 46 + 6 * k by omega) (show slots + 6 + 0 ≤ 1200 + 200 * k by omega)) (fun c9 => absurd er c9)

set_option maxHeartbeats 4000000 in
set_option maxRecDepth 100000 in
theorem lw_order {p : Program} {l : Launch} {e : Env} {s : State} {m : MethodId} {below : List Frame} {meth : Method} {c : Code} {b L : Nat} {xs : Nat → Int32} {G : va_G} {Y : Nat → ClassId} {Q : State → Prop} {xm o : Nat} {adm : Nat → Nat} {H : Heap} {locs : List Loc} {cells slots k : Nat} {ls : Array Slot} {g : Nat → Int64} {h : PH} {ad dk : Nat → Nat} {BK : List Nat} {bS : Nat → Int32} {bN : Nat → Nat} {bV : Nat → Nat → Int64} {bT : Nat → Nat → Int32} {vA sA : Nat → Nat} {ink cop : Nat → Int32} {wai : Nat → Nat} {O : Nat → Nat → Ord} {nx he : Nat} {C : Nat → Nat → Int32} {tl : Nat → Int32} {d sc sz ik cp wt wa ch ct : Nat → Int32} {sg : Nat → Int64} {th : Int32}
    (F : CallFix p m c cL_law 8 s #[Value.ref b] wsL_law RL) (hK : kK G Y s) (hX : va_X b L xs s s.heap) (hbl : b < s.heap.size) (hk : 7 * k + 7 ≤ L) (hL : L ≤ 3584) (hl : lv_has ls 8 (lwLv b (ad 0) xm o k)) (hcells : cells ≤ 40 + 6 * k) (hslots : slots ≤ 1000 + 200 * k) (hC : CRep Y h ad (dk, (BK, bS, bN, bV, bT, vA, sA), (ink, cop, wai, O), (nx, he, C), tl)) (hS : Sim ad (dk, (BK, bS, bN, bV, bT, vA, sA), (ink, cop, wai, O), (nx, he, C), tl) (d, sc, sz, sg, ik, cp, wt, wa, ch, ct, th) (3 * k)) (hw : wW G (lA s) s.heap (lW Y xm adm o (d, sc, sz, sg, ik, cp, wt, wa, ch, ct, th) g h) H locs)
    (tail : ∀ (u' : MS) (g' : Nat → Int64) (h' : PH) (H' : Heap) (locs' : List Loc) (cells' slots' : Nat) (ls' : Array Slot), sOut Y ad h' u' (3 * k + 3) → wW G (lA s) s.heap (lW Y xm adm o u' g' h') H' locs' → lv_has ls' 8 (lwLv b (ad 0) xm o k) → cells' ≤ 46 + 6 * k → slots' ≤ 1200 + 200 * k → W p l e room_1 s m #[Value.ref b] below meth c H' locs' cells' slots' Q (F0 m 809 ls' [])) : W p l e room_1 s m #[Value.ref b] below meth c H locs cells slots Q (F0 m 432 ls []) := by
  obtain ⟨hx, hb, hml, hown, hts⟩ := id F
  have hA : ∀ q, s.heap.size ≤ q → lA s q := fun q h => h
  have hbA : ¬ lA s b := Nat.not_le.mpr hbl
  have f_x : pAt h (ad 0) (oX (ad 1) (ad 2) (ad 3) (ad 4) (ad 5) (ad 6)) := hC.1
  refine lv_aload_n hx hb dL_law_432 rfl (lv_at hl 3 rfl) ?_
  refine lw_arg (j := 1) (n := 1) (i0 := 4) (i4 := 0) hx hb hX hbl hbA hw.2.2 (by decide) hk hL hl rfl rfl (by decide) dL_law_433 dL_law_434 dL_law_436 dL_law_437 dL_law_438 ?_
  refine lw_arg (j := 2) (n := 2) (i0 := 4) (i4 := 0) hx hb hX hbl hbA hw.2.2 (by decide) hk hL hl rfl rfl (by decide) dL_law_439 dL_law_440 dL_law_442 dL_law_443 dL_law_444 ?_
  refine lw_arg (j := 3) (n := 3) (i0 := 4) (i4 := 0) hx hb hX hbl hbA hw.2.2 (by decide) hk hL hl rfl rfl (by decide) dL_law_445 dL_law_446 dL_law_448 dL_law_449 dL_law_450 ?_
  refine lw_arg (j := 4) (n := 4) (i0 := 4) (i4 := 0) hx hb hX hbl hbA hw.2.2 (by decide) hk hL hl rfl rfl (by decide) dL_law_451 dL_law_452 dL_law_454 dL_law_455 dL_law_456 ?_
  refine lw_arg (j := 5) (n := 5) (i0 := 4) (i4 := 0) hx hb hX hbl hbA hw.2.2 (by decide) hk hL hl rfl rfl (by decide) dL_law_457 dL_law_458 dL_law_460 dL_law_461 dL_law_462 ?_
  refine lw_arg6 (i0 := 4) (i4 := 0) hx hb hX hbl hbA hw.2.2 hk hL hl rfl rfl dL_law_463 dL_law_464 dL_law_466 dL_law_468 dL_law_469 ?_
  refine lw_callX (c_X4_order l G Y h ad dk BK bS bN bV bT vA sA ink cop wai O nx he C tl (xs (7 * k + 1)) (xs (7 * k + 2)) (xs (7 * k + 3)) (xs (7 * k + 4)) (xs (7 * k + 5)) (xs (7 * k + 6)) hC) F (cwV 6 hts gL_law_X4_order rfl rfl rfl (by decide +kernel) ⟨Nat.le_of_ble_eq_true rfl, Nat.le_of_ble_eq_true rfl⟩) hK hw hA f_x rfl rfl hl.1 (Nat.le_of_ble_eq_true rfl) dL_law_470 ⟨show cells + 1 ≤ 601024 by omega, show slots + 6 ≤ 7293034 by omega⟩ (fun r1 h1 H1 locs1 hp1 hw1 => ?_)
  refine lv_aload_n hx hb dL_law_473 rfl (lv_at hl 2 rfl) ?_
  refine lw_arg (j := 1) (n := 1) (i0 := 4) (i4 := 0) hx hb hX hbl hbA hw1.2.2 (by decide) hk hL hl rfl rfl (by decide) dL_law_474 dL_law_475 dL_law_477 dL_law_478 dL_law_479 ?_
  refine lw_arg (j := 2) (n := 2) (i0 := 4) (i4 := 0) hx hb hX hbl hbA hw1.2.2 (by decide) hk hL hl rfl rfl (by decide) dL_law_480 dL_law_481 dL_law_483 dL_law_484 dL_law_485 ?_
  refine lw_arg (j := 3) (n := 3) (i0 := 4) (i4 := 0) hx hb hX hbl hbA hw1.2.2 (by decide) hk hL hl rfl rfl (by decide) dL_law_486 dL_law_487 dL_law_489 dL_law_490 dL_law_491 ?_
  refine lw_arg (j := 4) (n := 4) (i0 := 4) (i4 := 0) hx hb hX hbl hbA hw1.2.2 (by decide) hk hL hl rfl rfl (by decide) dL_law_492 dL_law_493 dL_law_495 dL_law_496 dL_law_497 ?_
  refine lw_arg (j := 5) (n := 5) (i0 := 4) (i4 := 0) hx hb hX hbl hbA hw1.2.2 (by decide) hk hL hl rfl rfl (by decide) dL_law_498 dL_law_499 dL_law_501 dL_law_502 dL_law_503 ?_
  refine lw_arg6 (i0 := 4) (i4 := 0) hx hb hX hbl hbA hw1.2.2 hk hL hl rfl rfl dL_law_504 dL_law_505 dL_law_507 dL_law_509 dL_law_510 ?_
  refine lw_callM (c_m_order l G Y xm adm d sc sz sg ik cp wt wa ch ct th (xs (7 * k + 1)) (xs (7 * k + 2)) (xs (7 * k + 3)) (xs (7 * k + 4)) (xs (7 * k + 5)) (xs (7 * k + 6)) hS.wOK) F (cwV 6 hts gL_law_X5_order rfl rfl rfl (by decide +kernel) ⟨Nat.le_of_ble_eq_true rfl, Nat.le_of_ble_eq_true rfl⟩) hK hw1 hA rfl rfl hl.1 (Nat.le_of_ble_eq_true rfl) dL_law_511 ⟨show cells + 1 + 0 ≤ 601024 by omega, show slots + 6 + 0 ≤ 7293034 by omega⟩ (fun r2 u2 H2 locs2 hp2 hw2 => ?_)
  obtain ⟨er, hout⟩ := sim_order hS hp1 hp2
  exact lv_icmp_eq (tgt := 809) hx hb dL_law_514 (by decide) (fun _ => tail u2 g h1 H2 locs2 _ _ ls (hout.up (by omega)) hw2 hl (show cells + 1 + 0 ≤ 46 + 6 * k by omega) (show slots + 6 + 0 ≤ 1200 + 200 * k by omega)) (fun c9 => absurd er c9)

set_option maxHeartbeats 4000000 in
set_option maxRecDepth 100000 in
theorem lw_day {p : Program} {l : Launch} {e : Env} {s : State} {m : MethodId} {below : List Frame} {meth : Method} {c : Code} {b L : Nat} {xs : Nat → Int32} {G : va_G} {Y : Nat → ClassId} {Q : State → Prop} {xm o : Nat} {adm : Nat → Nat} {H : Heap} {locs : List Loc} {cells slots k : Nat} {ls : Array Slot} {g : Nat → Int64} {h : PH} {ad dk : Nat → Nat} {BK : List Nat} {bS : Nat → Int32} {bN : Nat → Nat} {bV : Nat → Nat → Int64} {bT : Nat → Nat → Int32} {vA sA : Nat → Nat} {ink cop : Nat → Int32} {wai : Nat → Nat} {O : Nat → Nat → Ord} {nx he : Nat} {C : Nat → Nat → Int32} {tl : Nat → Int32} {d sc sz ik cp wt wa ch ct : Nat → Int32} {sg : Nat → Int64} {th : Int32}
    (F : CallFix p m c cL_law 8 s #[Value.ref b] wsL_law RL) (hK : kK G Y s) (hX : va_X b L xs s s.heap) (hbl : b < s.heap.size) (hk : 7 * k + 7 ≤ L) (hL : L ≤ 3584) (hl : lv_has ls 8 (lwLv b (ad 0) xm o k)) (hcells : cells ≤ 40 + 6 * k) (hslots : slots ≤ 1000 + 200 * k) (hC : CRep Y h ad (dk, (BK, bS, bN, bV, bT, vA, sA), (ink, cop, wai, O), (nx, he, C), tl)) (hS : Sim ad (dk, (BK, bS, bN, bV, bT, vA, sA), (ink, cop, wai, O), (nx, he, C), tl) (d, sc, sz, sg, ik, cp, wt, wa, ch, ct, th) (3 * k)) (hw : wW G (lA s) s.heap (lW Y xm adm o (d, sc, sz, sg, ik, cp, wt, wa, ch, ct, th) g h) H locs)
    (tail : ∀ (u' : MS) (g' : Nat → Int64) (h' : PH) (H' : Heap) (locs' : List Loc) (cells' slots' : Nat) (ls' : Array Slot), sOut Y ad h' u' (3 * k + 3) → wW G (lA s) s.heap (lW Y xm adm o u' g' h') H' locs' → lv_has ls' 8 (lwLv b (ad 0) xm o k) → cells' ≤ 46 + 6 * k → slots' ≤ 1200 + 200 * k → W p l e room_1 s m #[Value.ref b] below meth c H' locs' cells' slots' Q (F0 m 809 ls' [])) : W p l e room_1 s m #[Value.ref b] below meth c H locs cells slots Q (F0 m 519 ls []) := by
  obtain ⟨hx, hb, hml, hown, hts⟩ := id F
  have hA : ∀ q, s.heap.size ≤ q → lA s q := fun q h => h
  have hbA : ¬ lA s b := Nat.not_le.mpr hbl
  have f_x : pAt h (ad 0) (oX (ad 1) (ad 2) (ad 3) (ad 4) (ad 5) (ad 6)) := hC.1
  obtain ⟨c0, hc0, hc0b⟩ := hS.c0 (by omega)
  refine lv_aload_n hx hb dL_law_519 rfl (lv_at hl 3 rfl) ?_
  refine lw_callX (c_X4_day l G Y h ad dk BK bS bN bV bT vA sA ink cop wai O nx he C tl  hC) F (cwV 0 hts gL_law_X4_day rfl rfl rfl (by decide +kernel) ⟨Nat.le_of_ble_eq_true rfl, Nat.le_of_ble_eq_true rfl⟩) hK hw hA f_x rfl rfl hl.1 (Nat.le_of_ble_eq_true rfl) dL_law_520 ⟨show cells + 0 ≤ 601024 by omega, show slots + 0 ≤ 7293034 by omega⟩ (fun r1 h1 H1 locs1 hp1 hw1 => ?_)
  refine lv_aload_n hx hb dL_law_523 rfl (lv_at hl 2 rfl) ?_
  refine lw_callM (c_m_day l G Y xm adm d sc sz sg ik cp wt wa ch ct th  hS.dOK hS.zOK hS.wOK c0 hc0 (by omega)) F (cwV 0 hts gL_law_X5_day rfl rfl rfl (by decide +kernel) ⟨Nat.le_of_ble_eq_true rfl, Nat.le_of_ble_eq_true rfl⟩) hK hw1 hA rfl rfl hl.1 (Nat.le_of_ble_eq_true rfl) dL_law_524 ⟨show cells + 0 + 0 ≤ 601024 by omega, show slots + 0 + 0 ≤ 7293034 by omega⟩ (fun r2 u2 H2 locs2 hp2 hw2 => ?_)
  obtain ⟨er, hout⟩ := sim_day hC (by omega) hS hp1 hp2
  exact lv_icmp_eq (tgt := 809) hx hb dL_law_527 (by decide) (fun _ => tail u2 g h1 H2 locs2 _ _ ls (hout.up (by omega)) hw2 hl (show cells + 0 + 0 ≤ 46 + 6 * k by omega) (show slots + 0 + 0 ≤ 1200 + 200 * k by omega)) (fun c9 => absurd er c9)

set_option maxHeartbeats 4000000 in
set_option maxRecDepth 100000 in
theorem lw_fill {p : Program} {l : Launch} {e : Env} {s : State} {m : MethodId} {below : List Frame} {meth : Method} {c : Code} {b L : Nat} {xs : Nat → Int32} {G : va_G} {Y : Nat → ClassId} {Q : State → Prop} {xm o : Nat} {adm : Nat → Nat} {H : Heap} {locs : List Loc} {cells slots k : Nat} {ls : Array Slot} {g : Nat → Int64} {h : PH} {ad dk : Nat → Nat} {BK : List Nat} {bS : Nat → Int32} {bN : Nat → Nat} {bV : Nat → Nat → Int64} {bT : Nat → Nat → Int32} {vA sA : Nat → Nat} {ink cop : Nat → Int32} {wai : Nat → Nat} {O : Nat → Nat → Ord} {nx he : Nat} {C : Nat → Nat → Int32} {tl : Nat → Int32} {d sc sz ik cp wt wa ch ct : Nat → Int32} {sg : Nat → Int64} {th : Int32}
    (F : CallFix p m c cL_law 8 s #[Value.ref b] wsL_law RL) (hK : kK G Y s) (hX : va_X b L xs s s.heap) (hbl : b < s.heap.size) (hk : 7 * k + 7 ≤ L) (hL : L ≤ 3584) (hl : lv_has ls 8 (lwLv b (ad 0) xm o k)) (hcells : cells ≤ 40 + 6 * k) (hslots : slots ≤ 1000 + 200 * k) (hC : CRep Y h ad (dk, (BK, bS, bN, bV, bT, vA, sA), (ink, cop, wai, O), (nx, he, C), tl)) (hS : Sim ad (dk, (BK, bS, bN, bV, bT, vA, sA), (ink, cop, wai, O), (nx, he, C), tl) (d, sc, sz, sg, ik, cp, wt, wa, ch, ct, th) (3 * k)) (hw : wW G (lA s) s.heap (lW Y xm adm o (d, sc, sz, sg, ik, cp, wt, wa, ch, ct, th) g h) H locs)
    (tail : ∀ (u' : MS) (g' : Nat → Int64) (h' : PH) (H' : Heap) (locs' : List Loc) (cells' slots' : Nat) (ls' : Array Slot), sOut Y ad h' u' (3 * k + 3) → wW G (lA s) s.heap (lW Y xm adm o u' g' h') H' locs' → lv_has ls' 8 (lwLv b (ad 0) xm o k) → cells' ≤ 46 + 6 * k → slots' ≤ 1200 + 200 * k → W p l e room_1 s m #[Value.ref b] below meth c H' locs' cells' slots' Q (F0 m 809 ls' [])) : W p l e room_1 s m #[Value.ref b] below meth c H locs cells slots Q (F0 m 532 ls []) := by
  obtain ⟨hx, hb, hml, hown, hts⟩ := id F
  have hA : ∀ q, s.heap.size ≤ q → lA s q := fun q h => h
  have hbA : ¬ lA s b := Nat.not_le.mpr hbl
  have f_x : pAt h (ad 0) (oX (ad 1) (ad 2) (ad 3) (ad 4) (ad 5) (ad 6)) := hC.1
  refine lv_aload_n hx hb dL_law_532 rfl (lv_at hl 3 rfl) ?_
  refine lw_arg (j := 1) (n := 1) (i0 := 4) (i4 := 0) hx hb hX hbl hbA hw.2.2 (by decide) hk hL hl rfl rfl (by decide) dL_law_533 dL_law_534 dL_law_536 dL_law_537 dL_law_538 ?_
  refine lw_arg (j := 2) (n := 2) (i0 := 4) (i4 := 0) hx hb hX hbl hbA hw.2.2 (by decide) hk hL hl rfl rfl (by decide) dL_law_539 dL_law_540 dL_law_542 dL_law_543 dL_law_544 ?_
  refine lw_callX (c_X4_fill l G Y h ad dk BK bS bN bV bT vA sA ink cop wai O nx he C tl (xs (7 * k + 1)) (xs (7 * k + 2)) hC) F (cwV 2 hts gL_law_X4_fill rfl rfl rfl (by decide +kernel) ⟨Nat.le_of_ble_eq_true rfl, Nat.le_of_ble_eq_true rfl⟩) hK hw hA f_x rfl rfl hl.1 (Nat.le_of_ble_eq_true rfl) dL_law_545 ⟨show cells + 0 ≤ 601024 by omega, show slots + 0 ≤ 7293034 by omega⟩ (fun r1 h1 H1 locs1 hp1 hw1 => ?_)
  refine lv_aload_n hx hb dL_law_548 rfl (lv_at hl 2 rfl) ?_
  refine lw_arg (j := 1) (n := 1) (i0 := 4) (i4 := 0) hx hb hX hbl hbA hw1.2.2 (by decide) hk hL hl rfl rfl (by decide) dL_law_549 dL_law_550 dL_law_552 dL_law_553 dL_law_554 ?_
  refine lw_arg (j := 2) (n := 2) (i0 := 4) (i4 := 0) hx hb hX hbl hbA hw1.2.2 (by decide) hk hL hl rfl rfl (by decide) dL_law_555 dL_law_556 dL_law_558 dL_law_559 dL_law_560 ?_
  refine lw_callM (c_m_fill l G Y xm adm d sc sz sg ik cp wt wa ch ct th (xs (7 * k + 1)) (xs (7 * k + 2)) ) F (cwV 2 hts gL_law_X5_fill rfl rfl rfl (by decide +kernel) ⟨Nat.le_of_ble_eq_true rfl, Nat.le_of_ble_eq_true rfl⟩) hK hw1 hA rfl rfl hl.1 (Nat.le_of_ble_eq_true rfl) dL_law_561 ⟨show cells + 0 + 0 ≤ 601024 by omega, show slots + 0 + 0 ≤ 7293034 by omega⟩ (fun r2 u2 H2 locs2 hp2 hw2 => ?_)
  obtain ⟨er, hout⟩ := sim_fill hC hS hp1 hp2
  exact lv_icmp_eq (tgt := 809) hx hb dL_law_564 (by decide) (fun _ => tail u2 g h1 H2 locs2 _ _ ls (hout.up (by omega)) hw2 hl (show cells + 0 + 0 ≤ 46 + 6 * k by omega) (show slots + 0 + 0 ≤ 1200 + 200 * k by omega)) (fun c9 => absurd er c9)

set_option maxHeartbeats 4000000 in
set_option maxRecDepth 100000 in
theorem lw_scribe {p : Program} {l : Launch} {e : Env} {s : State} {m : MethodId} {below : List Frame} {meth : Method} {c : Code} {b L : Nat} {xs : Nat → Int32} {G : va_G} {Y : Nat → ClassId} {Q : State → Prop} {xm o : Nat} {adm : Nat → Nat} {H : Heap} {locs : List Loc} {cells slots k : Nat} {ls : Array Slot} {g : Nat → Int64} {h : PH} {ad dk : Nat → Nat} {BK : List Nat} {bS : Nat → Int32} {bN : Nat → Nat} {bV : Nat → Nat → Int64} {bT : Nat → Nat → Int32} {vA sA : Nat → Nat} {ink cop : Nat → Int32} {wai : Nat → Nat} {O : Nat → Nat → Ord} {nx he : Nat} {C : Nat → Nat → Int32} {tl : Nat → Int32} {d sc sz ik cp wt wa ch ct : Nat → Int32} {sg : Nat → Int64} {th : Int32}
    (F : CallFix p m c cL_law 8 s #[Value.ref b] wsL_law RL) (hK : kK G Y s) (hX : va_X b L xs s s.heap) (hbl : b < s.heap.size) (hk : 7 * k + 7 ≤ L) (hL : L ≤ 3584) (hl : lv_has ls 8 (lwLv b (ad 0) xm o k)) (hcells : cells ≤ 40 + 6 * k) (hslots : slots ≤ 1000 + 200 * k) (hC : CRep Y h ad (dk, (BK, bS, bN, bV, bT, vA, sA), (ink, cop, wai, O), (nx, he, C), tl)) (hS : Sim ad (dk, (BK, bS, bN, bV, bT, vA, sA), (ink, cop, wai, O), (nx, he, C), tl) (d, sc, sz, sg, ik, cp, wt, wa, ch, ct, th) (3 * k)) (hw : wW G (lA s) s.heap (lW Y xm adm o (d, sc, sz, sg, ik, cp, wt, wa, ch, ct, th) g h) H locs)
    (tail : ∀ (u' : MS) (g' : Nat → Int64) (h' : PH) (H' : Heap) (locs' : List Loc) (cells' slots' : Nat) (ls' : Array Slot), sOut Y ad h' u' (3 * k + 3) → wW G (lA s) s.heap (lW Y xm adm o u' g' h') H' locs' → lv_has ls' 8 (lwLv b (ad 0) xm o k) → cells' ≤ 46 + 6 * k → slots' ≤ 1200 + 200 * k → W p l e room_1 s m #[Value.ref b] below meth c H' locs' cells' slots' Q (F0 m 809 ls' [])) : W p l e room_1 s m #[Value.ref b] below meth c H locs cells slots Q (F0 m 569 ls []) := by
  obtain ⟨hx, hb, hml, hown, hts⟩ := id F
  have hA : ∀ q, s.heap.size ≤ q → lA s q := fun q h => h
  have hbA : ¬ lA s b := Nat.not_le.mpr hbl
  have f_x : pAt h (ad 0) (oX (ad 1) (ad 2) (ad 3) (ad 4) (ad 5) (ad 6)) := hC.1
  refine lv_aload_n hx hb dL_law_569 rfl (lv_at hl 3 rfl) ?_
  refine lw_arg (j := 1) (n := 1) (i0 := 4) (i4 := 0) hx hb hX hbl hbA hw.2.2 (by decide) hk hL hl rfl rfl (by decide) dL_law_570 dL_law_571 dL_law_573 dL_law_574 dL_law_575 ?_
  refine lw_arg (j := 2) (n := 2) (i0 := 4) (i4 := 0) hx hb hX hbl hbA hw.2.2 (by decide) hk hL hl rfl rfl (by decide) dL_law_576 dL_law_577 dL_law_579 dL_law_580 dL_law_581 ?_
  refine lw_callX (c_X4_scribe l G Y h ad dk BK bS bN bV bT vA sA ink cop wai O nx he C tl (xs (7 * k + 1)) (xs (7 * k + 2)) hC) F (cwV 2 hts gL_law_X4_scribe rfl rfl rfl (by decide +kernel) ⟨Nat.le_of_ble_eq_true rfl, Nat.le_of_ble_eq_true rfl⟩) hK hw hA f_x rfl rfl hl.1 (Nat.le_of_ble_eq_true rfl) dL_law_582 ⟨show cells + 0 ≤ 601024 by omega, show slots + 0 ≤ 7293034 by omega⟩ (fun r1 h1 H1 locs1 hp1 hw1 => ?_)
  refine lv_aload_n hx hb dL_law_585 rfl (lv_at hl 2 rfl) ?_
  refine lw_arg (j := 1) (n := 1) (i0 := 4) (i4 := 0) hx hb hX hbl hbA hw1.2.2 (by decide) hk hL hl rfl rfl (by decide) dL_law_586 dL_law_587 dL_law_589 dL_law_590 dL_law_591 ?_
  refine lw_arg (j := 2) (n := 2) (i0 := 4) (i4 := 0) hx hb hX hbl hbA hw1.2.2 (by decide) hk hL hl rfl rfl (by decide) dL_law_592 dL_law_593 dL_law_595 dL_law_596 dL_law_597 ?_
  refine lw_callM (c_m_scribe l G Y xm adm d sc sz sg ik cp wt wa ch ct th (xs (7 * k + 1)) (xs (7 * k + 2)) ) F (cwV 2 hts gL_law_X5_scribe rfl rfl rfl (by decide +kernel) ⟨Nat.le_of_ble_eq_true rfl, Nat.le_of_ble_eq_true rfl⟩) hK hw1 hA rfl rfl hl.1 (Nat.le_of_ble_eq_true rfl) dL_law_598 ⟨show cells + 0 + 0 ≤ 601024 by omega, show slots + 0 + 0 ≤ 7293034 by omega⟩ (fun r2 u2 H2 locs2 hp2 hw2 => ?_)
  obtain ⟨er, hout⟩ := sim_scribe hC hS hp1 hp2
  exact lv_icmp_eq (tgt := 809) hx hb dL_law_601 (by decide) (fun _ => tail u2 g h1 H2 locs2 _ _ ls (hout.up (by omega)) hw2 hl (show cells + 0 + 0 ≤ 46 + 6 * k by omega) (show slots + 0 + 0 ≤ 1200 + 200 * k by omega)) (fun c9 => absurd er c9)

set_option maxHeartbeats 4000000 in
set_option maxRecDepth 100000 in
theorem lw_book {p : Program} {l : Launch} {e : Env} {s : State} {m : MethodId} {below : List Frame} {meth : Method} {c : Code} {b L : Nat} {xs : Nat → Int32} {G : va_G} {Y : Nat → ClassId} {Q : State → Prop} {xm o : Nat} {adm : Nat → Nat} {H : Heap} {locs : List Loc} {cells slots k : Nat} {ls : Array Slot} {g : Nat → Int64} {h : PH} {ad dk : Nat → Nat} {BK : List Nat} {bS : Nat → Int32} {bN : Nat → Nat} {bV : Nat → Nat → Int64} {bT : Nat → Nat → Int32} {vA sA : Nat → Nat} {ink cop : Nat → Int32} {wai : Nat → Nat} {O : Nat → Nat → Ord} {nx he : Nat} {C : Nat → Nat → Int32} {tl : Nat → Int32} {d sc sz ik cp wt wa ch ct : Nat → Int32} {sg : Nat → Int64} {th : Int32}
    (F : CallFix p m c cL_law 8 s #[Value.ref b] wsL_law RL) (hK : kK G Y s) (hX : va_X b L xs s s.heap) (hbl : b < s.heap.size) (hk : 7 * k + 7 ≤ L) (hL : L ≤ 3584) (hl : lv_has ls 8 (lwLv b (ad 0) xm o k)) (hcells : cells ≤ 40 + 6 * k) (hslots : slots ≤ 1000 + 200 * k) (hC : CRep Y h ad (dk, (BK, bS, bN, bV, bT, vA, sA), (ink, cop, wai, O), (nx, he, C), tl)) (hS : Sim ad (dk, (BK, bS, bN, bV, bT, vA, sA), (ink, cop, wai, O), (nx, he, C), tl) (d, sc, sz, sg, ik, cp, wt, wa, ch, ct, th) (3 * k)) (hw : wW G (lA s) s.heap (lW Y xm adm o (d, sc, sz, sg, ik, cp, wt, wa, ch, ct, th) g h) H locs)
    (tail : ∀ (u' : MS) (g' : Nat → Int64) (h' : PH) (H' : Heap) (locs' : List Loc) (cells' slots' : Nat) (ls' : Array Slot), sOut Y ad h' u' (3 * k + 3) → wW G (lA s) s.heap (lW Y xm adm o u' g' h') H' locs' → lv_has ls' 8 (lwLv b (ad 0) xm o k) → cells' ≤ 46 + 6 * k → slots' ≤ 1200 + 200 * k → W p l e room_1 s m #[Value.ref b] below meth c H' locs' cells' slots' Q (F0 m 809 ls' [])) : W p l e room_1 s m #[Value.ref b] below meth c H locs cells slots Q (F0 m 673 ls []) := by
  obtain ⟨hx, hb, hml, hown, hts⟩ := id F
  have hA : ∀ q, s.heap.size ≤ q → lA s q := fun q h => h
  have hbA : ¬ lA s b := Nat.not_le.mpr hbl
  have f_x : pAt h (ad 0) (oX (ad 1) (ad 2) (ad 3) (ad 4) (ad 5) (ad 6)) := hC.1
  refine lv_aload_n hx hb dL_law_673 rfl (lv_at hl 3 rfl) ?_
  refine lw_arg (j := 1) (n := 1) (i0 := 4) (i4 := 0) hx hb hX hbl hbA hw.2.2 (by decide) hk hL hl rfl rfl (by decide) dL_law_674 dL_law_675 dL_law_677 dL_law_678 dL_law_679 ?_
  refine lw_arg (j := 2) (n := 2) (i0 := 4) (i4 := 0) hx hb hX hbl hbA hw.2.2 (by decide) hk hL hl rfl rfl (by decide) dL_law_680 dL_law_681 dL_law_683 dL_law_684 dL_law_685 ?_
  refine lw_callX (c_X4_book l G Y h ad dk BK bS bN bV bT vA sA ink cop wai O nx he C tl (xs (7 * k + 1)) (xs (7 * k + 2)) hC) F (cwV 2 hts gL_law_X4_book rfl rfl rfl (by decide +kernel) ⟨Nat.le_of_ble_eq_true rfl, Nat.le_of_ble_eq_true rfl⟩) hK hw hA f_x rfl rfl hl.1 (Nat.le_of_ble_eq_true rfl) dL_law_686 ⟨show cells + 0 ≤ 601024 by omega, show slots + 0 ≤ 7293034 by omega⟩ (fun r1 h1 H1 locs1 hp1 hw1 => ?_)
  refine lv_aload_n hx hb dL_law_689 rfl (lv_at hl 2 rfl) ?_
  refine lw_arg (j := 1) (n := 1) (i0 := 4) (i4 := 0) hx hb hX hbl hbA hw1.2.2 (by decide) hk hL hl rfl rfl (by decide) dL_law_690 dL_law_691 dL_law_693 dL_law_694 dL_law_695 ?_
  refine lw_arg (j := 2) (n := 2) (i0 := 4) (i4 := 0) hx hb hX hbl hbA hw1.2.2 (by decide) hk hL hl rfl rfl (by decide) dL_law_696 dL_law_697 dL_law_699 dL_law_700 dL_law_701 ?_
  refine lw_callM (c_m_book l G Y xm adm d sc sz sg ik cp wt wa ch ct th (xs (7 * k + 1)) (xs (7 * k + 2)) hS.dOK) F (cwV 2 hts gL_law_X5_book rfl rfl rfl (by decide +kernel) ⟨Nat.le_of_ble_eq_true rfl, Nat.le_of_ble_eq_true rfl⟩) hK hw1 hA rfl rfl hl.1 (Nat.le_of_ble_eq_true rfl) dL_law_702 ⟨show cells + 0 + 0 ≤ 601024 by omega, show slots + 0 + 0 ≤ 7293034 by omega⟩ (fun r2 u2 H2 locs2 hp2 hw2 => ?_)
  obtain ⟨er, hout⟩ := sim_book hC hS hp1 hp2
  exact lv_icmp_eq (tgt := 809) hx hb dL_law_705 (by decide) (fun _ => tail u2 g h1 H2 locs2 _ _ ls (hout.up (by omega)) hw2 hl (show cells + 0 + 0 ≤ 46 + 6 * k by omega) (show slots + 0 + 0 ≤ 1200 + 200 * k by omega)) (fun c9 => absurd er c9)

set_option maxHeartbeats 4000000 in
set_option maxRecDepth 100000 in
theorem lw_differ {p : Program} {l : Launch} {e : Env} {s : State} {m : MethodId} {below : List Frame} {meth : Method} {c : Code} {b L : Nat} {xs : Nat → Int32} {G : va_G} {Y : Nat → ClassId} {Q : State → Prop} {xm o : Nat} {adm : Nat → Nat} {H : Heap} {locs : List Loc} {cells slots k : Nat} {ls : Array Slot} {g : Nat → Int64} {h : PH} {ad dk : Nat → Nat} {BK : List Nat} {bS : Nat → Int32} {bN : Nat → Nat} {bV : Nat → Nat → Int64} {bT : Nat → Nat → Int32} {vA sA : Nat → Nat} {ink cop : Nat → Int32} {wai : Nat → Nat} {O : Nat → Nat → Ord} {nx he : Nat} {C : Nat → Nat → Int32} {tl : Nat → Int32} {d sc sz ik cp wt wa ch ct : Nat → Int32} {sg : Nat → Int64} {th : Int32}
    (F : CallFix p m c cL_law 8 s #[Value.ref b] wsL_law RL) (hK : kK G Y s) (hX : va_X b L xs s s.heap) (hbl : b < s.heap.size) (hk : 7 * k + 7 ≤ L) (hL : L ≤ 3584) (hl : lv_has ls 8 (lwLv b (ad 0) xm o k)) (hcells : cells ≤ 40 + 6 * k) (hslots : slots ≤ 1000 + 200 * k) (hC : CRep Y h ad (dk, (BK, bS, bN, bV, bT, vA, sA), (ink, cop, wai, O), (nx, he, C), tl)) (hS : Sim ad (dk, (BK, bS, bN, bV, bT, vA, sA), (ink, cop, wai, O), (nx, he, C), tl) (d, sc, sz, sg, ik, cp, wt, wa, ch, ct, th) (3 * k)) (hw : wW G (lA s) s.heap (lW Y xm adm o (d, sc, sz, sg, ik, cp, wt, wa, ch, ct, th) g h) H locs)
    (tail : ∀ (u' : MS) (g' : Nat → Int64) (h' : PH) (H' : Heap) (locs' : List Loc) (cells' slots' : Nat) (ls' : Array Slot), sOut Y ad h' u' (3 * k + 3) → wW G (lA s) s.heap (lW Y xm adm o u' g' h') H' locs' → lv_has ls' 8 (lwLv b (ad 0) xm o k) → cells' ≤ 46 + 6 * k → slots' ≤ 1200 + 200 * k → W p l e room_1 s m #[Value.ref b] below meth c H' locs' cells' slots' Q (F0 m 809 ls' [])) : W p l e room_1 s m #[Value.ref b] below meth c H locs cells slots Q (F0 m 710 ls []) := by
  obtain ⟨hx, hb, hml, hown, hts⟩ := id F
  have hA : ∀ q, s.heap.size ≤ q → lA s q := fun q h => h
  have hbA : ¬ lA s b := Nat.not_le.mpr hbl
  have f_x : pAt h (ad 0) (oX (ad 1) (ad 2) (ad 3) (ad 4) (ad 5) (ad 6)) := hC.1
  refine lv_aload_n hx hb dL_law_710 rfl (lv_at hl 3 rfl) ?_
  refine lw_arg (j := 1) (n := 1) (i0 := 4) (i4 := 0) hx hb hX hbl hbA hw.2.2 (by decide) hk hL hl rfl rfl (by decide) dL_law_711 dL_law_712 dL_law_714 dL_law_715 dL_law_716 ?_
  refine lw_arg (j := 2) (n := 2) (i0 := 4) (i4 := 0) hx hb hX hbl hbA hw.2.2 (by decide) hk hL hl rfl rfl (by decide) dL_law_717 dL_law_718 dL_law_720 dL_law_721 dL_law_722 ?_
  refine lw_callX (c_X4_differ l G Y h ad dk BK bS bN bV bT vA sA ink cop wai O nx he C tl (xs (7 * k + 1)) (xs (7 * k + 2)) hC) F (cwV 2 hts gL_law_X4_differ rfl rfl rfl (by decide +kernel) ⟨Nat.le_of_ble_eq_true rfl, Nat.le_of_ble_eq_true rfl⟩) hK hw hA f_x rfl rfl hl.1 (Nat.le_of_ble_eq_true rfl) dL_law_723 ⟨show cells + 0 ≤ 601024 by omega, show slots + 0 ≤ 7293034 by omega⟩ (fun r1 h1 H1 locs1 hp1 hw1 => ?_)
  refine lv_aload_n hx hb dL_law_726 rfl (lv_at hl 2 rfl) ?_
  refine lw_arg (j := 1) (n := 1) (i0 := 4) (i4 := 0) hx hb hX hbl hbA hw1.2.2 (by decide) hk hL hl rfl rfl (by decide) dL_law_727 dL_law_728 dL_law_730 dL_law_731 dL_law_732 ?_
  refine lw_arg (j := 2) (n := 2) (i0 := 4) (i4 := 0) hx hb hX hbl hbA hw1.2.2 (by decide) hk hL hl rfl rfl (by decide) dL_law_733 dL_law_734 dL_law_736 dL_law_737 dL_law_738 ?_
  refine lw_callM (c_m_differ l G Y xm adm d sc sz sg ik cp wt wa ch ct th (xs (7 * k + 1)) (xs (7 * k + 2)) hS.dOK hS.zOK) F (cwV 2 hts gL_law_X5_differ rfl rfl rfl (by decide +kernel) ⟨Nat.le_of_ble_eq_true rfl, Nat.le_of_ble_eq_true rfl⟩) hK hw1 hA rfl rfl hl.1 (Nat.le_of_ble_eq_true rfl) dL_law_739 ⟨show cells + 0 + 0 ≤ 601024 by omega, show slots + 0 + 0 ≤ 7293034 by omega⟩ (fun r2 u2 H2 locs2 hp2 hw2 => ?_)
  obtain ⟨er, hout⟩ := sim_differ hC hS hp1 hp2
  exact lv_icmp_eq (tgt := 809) hx hb dL_law_742 (by decide) (fun _ => tail u2 g h1 H2 locs2 _ _ ls (hout.up (by omega)) hw2 hl (show cells + 0 + 0 ≤ 46 + 6 * k by omega) (show slots + 0 + 0 ≤ 1200 + 200 * k by omega)) (fun c9 => absurd er c9)

set_option maxHeartbeats 4000000 in
set_option maxRecDepth 100000 in
theorem lw_chronicle {p : Program} {l : Launch} {e : Env} {s : State} {m : MethodId} {below : List Frame} {meth : Method} {c : Code} {b L : Nat} {xs : Nat → Int32} {G : va_G} {Y : Nat → ClassId} {Q : State → Prop} {xm o : Nat} {adm : Nat → Nat} {H : Heap} {locs : List Loc} {cells slots k : Nat} {ls : Array Slot} {g : Nat → Int64} {h : PH} {ad dk : Nat → Nat} {BK : List Nat} {bS : Nat → Int32} {bN : Nat → Nat} {bV : Nat → Nat → Int64} {bT : Nat → Nat → Int32} {vA sA : Nat → Nat} {ink cop : Nat → Int32} {wai : Nat → Nat} {O : Nat → Nat → Ord} {nx he : Nat} {C : Nat → Nat → Int32} {tl : Nat → Int32} {d sc sz ik cp wt wa ch ct : Nat → Int32} {sg : Nat → Int64} {th : Int32}
    (F : CallFix p m c cL_law 8 s #[Value.ref b] wsL_law RL) (hK : kK G Y s) (hX : va_X b L xs s s.heap) (hbl : b < s.heap.size) (hk : 7 * k + 7 ≤ L) (hL : L ≤ 3584) (hl : lv_has ls 8 (lwLv b (ad 0) xm o k)) (hcells : cells ≤ 40 + 6 * k) (hslots : slots ≤ 1000 + 200 * k) (hC : CRep Y h ad (dk, (BK, bS, bN, bV, bT, vA, sA), (ink, cop, wai, O), (nx, he, C), tl)) (hS : Sim ad (dk, (BK, bS, bN, bV, bT, vA, sA), (ink, cop, wai, O), (nx, he, C), tl) (d, sc, sz, sg, ik, cp, wt, wa, ch, ct, th) (3 * k)) (hw : wW G (lA s) s.heap (lW Y xm adm o (d, sc, sz, sg, ik, cp, wt, wa, ch, ct, th) g h) H locs)
    (tail : ∀ (u' : MS) (g' : Nat → Int64) (h' : PH) (H' : Heap) (locs' : List Loc) (cells' slots' : Nat) (ls' : Array Slot), sOut Y ad h' u' (3 * k + 3) → wW G (lA s) s.heap (lW Y xm adm o u' g' h') H' locs' → lv_has ls' 8 (lwLv b (ad 0) xm o k) → cells' ≤ 46 + 6 * k → slots' ≤ 1200 + 200 * k → W p l e room_1 s m #[Value.ref b] below meth c H' locs' cells' slots' Q (F0 m 809 ls' [])) : W p l e room_1 s m #[Value.ref b] below meth c H locs cells slots Q (F0 m 747 ls []) := by
  obtain ⟨hx, hb, hml, hown, hts⟩ := id F
  have hA : ∀ q, s.heap.size ≤ q → lA s q := fun q h => h
  have hbA : ¬ lA s b := Nat.not_le.mpr hbl
  have f_x : pAt h (ad 0) (oX (ad 1) (ad 2) (ad 3) (ad 4) (ad 5) (ad 6)) := hC.1
  obtain ⟨c0, hc0, hc0b⟩ := hS.c0 (by omega)
  refine lv_aload_n hx hb dL_law_747 rfl (lv_at hl 3 rfl) ?_
  refine lw_arg (j := 1) (n := 1) (i0 := 4) (i4 := 0) hx hb hX hbl hbA hw.2.2 (by decide) hk hL hl rfl rfl (by decide) dL_law_748 dL_law_749 dL_law_751 dL_law_752 dL_law_753 ?_
  refine lw_arg (j := 2) (n := 2) (i0 := 4) (i4 := 0) hx hb hX hbl hbA hw.2.2 (by decide) hk hL hl rfl rfl (by decide) dL_law_754 dL_law_755 dL_law_757 dL_law_758 dL_law_759 ?_
  refine lw_callX (c_X4_chronicle l G Y h ad dk BK bS bN bV bT vA sA ink cop wai O nx he C tl (xs (7 * k + 1)) (xs (7 * k + 2)) hC) F (cwV 2 hts gL_law_X4_chronicle rfl rfl rfl (by decide +kernel) ⟨Nat.le_of_ble_eq_true rfl, Nat.le_of_ble_eq_true rfl⟩) hK hw hA f_x rfl rfl hl.1 (Nat.le_of_ble_eq_true rfl) dL_law_760 ⟨show cells + 0 ≤ 601024 by omega, show slots + 0 ≤ 7293034 by omega⟩ (fun r1 h1 H1 locs1 hp1 hw1 => ?_)
  refine lv_aload_n hx hb dL_law_763 rfl (lv_at hl 2 rfl) ?_
  refine lw_arg (j := 1) (n := 1) (i0 := 4) (i4 := 0) hx hb hX hbl hbA hw1.2.2 (by decide) hk hL hl rfl rfl (by decide) dL_law_764 dL_law_765 dL_law_767 dL_law_768 dL_law_769 ?_
  refine lw_arg (j := 2) (n := 2) (i0 := 4) (i4 := 0) hx hb hX hbl hbA hw1.2.2 (by decide) hk hL hl rfl rfl (by decide) dL_law_770 dL_law_771 dL_law_773 dL_law_774 dL_law_775 ?_
  refine lw_callM (c_m_chronicle l G Y xm adm d sc sz sg ik cp wt wa ch ct th (xs (7 * k + 1)) (xs (7 * k + 2)) c0 hc0) F (cwV 2 hts gL_law_X5_chronicle rfl rfl rfl (by decide +kernel) ⟨Nat.le_of_ble_eq_true rfl, Nat.le_of_ble_eq_true rfl⟩) hK hw1 hA rfl rfl hl.1 (Nat.le_of_ble_eq_true rfl) dL_law_776 ⟨show cells + 0 + 0 ≤ 601024 by omega, show slots + 0 + 0 ≤ 7293034 by omega⟩ (fun r2 u2 H2 locs2 hp2 hw2 => ?_)
  obtain ⟨er, hout⟩ := sim_chronicle hC (by omega) hS hp1 hp2
  exact lv_icmp_eq (tgt := 809) hx hb dL_law_779 (by decide) (fun _ => tail u2 g h1 H2 locs2 _ _ ls (hout.up (by omega)) hw2 hl (show cells + 0 + 0 ≤ 46 + 6 * k by omega) (show slots + 0 + 0 ≤ 1200 + 200 * k by omega)) (fun c9 => absurd er c9)

set_option maxHeartbeats 4000000 in
set_option maxRecDepth 100000 in
theorem lw_count {p : Program} {l : Launch} {e : Env} {s : State} {m : MethodId} {below : List Frame} {meth : Method} {c : Code} {b L : Nat} {xs : Nat → Int32} {G : va_G} {Y : Nat → ClassId} {Q : State → Prop} {xm o : Nat} {adm : Nat → Nat} {H : Heap} {locs : List Loc} {cells slots k : Nat} {ls : Array Slot} {g : Nat → Int64} {h : PH} {ad dk : Nat → Nat} {BK : List Nat} {bS : Nat → Int32} {bN : Nat → Nat} {bV : Nat → Nat → Int64} {bT : Nat → Nat → Int32} {vA sA : Nat → Nat} {ink cop : Nat → Int32} {wai : Nat → Nat} {O : Nat → Nat → Ord} {nx he : Nat} {C : Nat → Nat → Int32} {tl : Nat → Int32} {d sc sz ik cp wt wa ch ct : Nat → Int32} {sg : Nat → Int64} {th : Int32}
    (F : CallFix p m c cL_law 8 s #[Value.ref b] wsL_law RL) (hK : kK G Y s) (hX : va_X b L xs s s.heap) (hbl : b < s.heap.size) (hk : 7 * k + 7 ≤ L) (hL : L ≤ 3584) (hl : lv_has ls 8 (lwLv b (ad 0) xm o k)) (hcells : cells ≤ 40 + 6 * k) (hslots : slots ≤ 1000 + 200 * k) (hC : CRep Y h ad (dk, (BK, bS, bN, bV, bT, vA, sA), (ink, cop, wai, O), (nx, he, C), tl)) (hS : Sim ad (dk, (BK, bS, bN, bV, bT, vA, sA), (ink, cop, wai, O), (nx, he, C), tl) (d, sc, sz, sg, ik, cp, wt, wa, ch, ct, th) (3 * k)) (hw : wW G (lA s) s.heap (lW Y xm adm o (d, sc, sz, sg, ik, cp, wt, wa, ch, ct, th) g h) H locs)
    (tail : ∀ (u' : MS) (g' : Nat → Int64) (h' : PH) (H' : Heap) (locs' : List Loc) (cells' slots' : Nat) (ls' : Array Slot), sOut Y ad h' u' (3 * k + 3) → wW G (lA s) s.heap (lW Y xm adm o u' g' h') H' locs' → lv_has ls' 8 (lwLv b (ad 0) xm o k) → cells' ≤ 46 + 6 * k → slots' ≤ 1200 + 200 * k → W p l e room_1 s m #[Value.ref b] below meth c H' locs' cells' slots' Q (F0 m 809 ls' [])) : W p l e room_1 s m #[Value.ref b] below meth c H locs cells slots Q (F0 m 784 ls []) := by
  obtain ⟨hx, hb, hml, hown, hts⟩ := id F
  have hA : ∀ q, s.heap.size ≤ q → lA s q := fun q h => h
  have hbA : ¬ lA s b := Nat.not_le.mpr hbl
  have f_x : pAt h (ad 0) (oX (ad 1) (ad 2) (ad 3) (ad 4) (ad 5) (ad 6)) := hC.1
  refine lv_aload_n hx hb dL_law_784 rfl (lv_at hl 3 rfl) ?_
  refine lw_arg (j := 1) (n := 1) (i0 := 4) (i4 := 0) hx hb hX hbl hbA hw.2.2 (by decide) hk hL hl rfl rfl (by decide) dL_law_785 dL_law_786 dL_law_788 dL_law_789 dL_law_790 ?_
  refine lw_callX (c_X4_count l G Y h ad dk BK bS bN bV bT vA sA ink cop wai O nx he C tl (xs (7 * k + 1)) hC) F (cwV 1 hts gL_law_X4_count rfl rfl rfl (by decide +kernel) ⟨Nat.le_of_ble_eq_true rfl, Nat.le_of_ble_eq_true rfl⟩) hK hw hA f_x rfl rfl hl.1 (Nat.le_of_ble_eq_true rfl) dL_law_791 ⟨show cells + 0 ≤ 601024 by omega, show slots + 0 ≤ 7293034 by omega⟩ (fun r1 h1 H1 locs1 hp1 hw1 => ?_)
  refine lv_aload_n hx hb dL_law_794 rfl (lv_at hl 2 rfl) ?_
  refine lw_arg (j := 1) (n := 1) (i0 := 4) (i4 := 0) hx hb hX hbl hbA hw1.2.2 (by decide) hk hL hl rfl rfl (by decide) dL_law_795 dL_law_796 dL_law_798 dL_law_799 dL_law_800 ?_
  refine lw_callM (c_m_count l G Y xm adm d sc sz sg ik cp wt wa ch ct th (xs (7 * k + 1)) ) F (cwV 1 hts gL_law_X5_count rfl rfl rfl (by decide +kernel) ⟨Nat.le_of_ble_eq_true rfl, Nat.le_of_ble_eq_true rfl⟩) hK hw1 hA rfl rfl hl.1 (Nat.le_of_ble_eq_true rfl) dL_law_801 ⟨show cells + 0 + 0 ≤ 601024 by omega, show slots + 0 + 0 ≤ 7293034 by omega⟩ (fun r2 u2 H2 locs2 hp2 hw2 => ?_)
  obtain ⟨er, hout⟩ := sim_count hC hS hp1 hp2
  exact lv_icmp_eq (tgt := 809) hx hb dL_law_804 (by decide) (fun _ => tail u2 g h1 H2 locs2 _ _ ls (hout.up (by omega)) hw2 hl (show cells + 0 + 0 ≤ 46 + 6 * k by omega) (show slots + 0 + 0 ≤ 1200 + 200 * k by omega)) (fun c9 => absurd er c9)

set_option maxHeartbeats 4000000 in
set_option maxRecDepth 100000 in
theorem lw_sign {p : Program} {l : Launch} (hl9 : l.stackTraces = false) {e : Env} {s : State} {m : MethodId} {below : List Frame} {meth : Method} {c : Code} {b L : Nat} {xs : Nat → Int32} {G : va_G} {Y : Nat → ClassId} {Q : State → Prop} {xm o : Nat} {adm : Nat → Nat} {H : Heap} {locs : List Loc} {cells slots k : Nat} {ls : Array Slot} {g : Nat → Int64} {h : PH} {ad dk : Nat → Nat} {BK : List Nat} {bS : Nat → Int32} {bN : Nat → Nat} {bV : Nat → Nat → Int64} {bT : Nat → Nat → Int32} {vA sA : Nat → Nat} {ink cop : Nat → Int32} {wai : Nat → Nat} {O : Nat → Nat → Ord} {nx he : Nat} {C : Nat → Nat → Int32} {tl : Nat → Int32} {d sc sz ik cp wt wa ch ct : Nat → Int32} {sg : Nat → Int64} {th : Int32}
    (F : CallFix p m c cL_law 8 s #[Value.ref b] wsL_law RL) (hK : kK G Y s) (hX : va_X b L xs s s.heap) (hbl : b < s.heap.size) (hk : 7 * k + 7 ≤ L) (hL : L ≤ 3584) (hl : lv_has ls 8 (lwLv b (ad 0) xm o k)) (hcells : cells ≤ 40 + 6 * k) (hslots : slots ≤ 1000 + 200 * k) (hC : CRep Y h ad (dk, (BK, bS, bN, bV, bT, vA, sA), (ink, cop, wai, O), (nx, he, C), tl)) (hS : Sim ad (dk, (BK, bS, bN, bV, bT, vA, sA), (ink, cop, wai, O), (nx, he, C), tl) (d, sc, sz, sg, ik, cp, wt, wa, ch, ct, th) (3 * k)) (hw : wW G (lA s) s.heap (lW Y xm adm o (d, sc, sz, sg, ik, cp, wt, wa, ch, ct, th) g h) H locs)
    (tail : ∀ (u' : MS) (g' : Nat → Int64) (h' : PH) (H' : Heap) (locs' : List Loc) (cells' slots' : Nat) (ls' : Array Slot), sOut Y ad h' u' (3 * k + 3) → wW G (lA s) s.heap (lW Y xm adm o u' g' h') H' locs' → lv_has ls' 8 (lwLv b (ad 0) xm o k) → cells' ≤ 46 + 6 * k → slots' ≤ 1200 + 200 * k → W p l e room_1 s m #[Value.ref b] below meth c H' locs' cells' slots' Q (F0 m 809 ls' [])) (hE : xE (lA s) s s.heap) : W p l e room_1 s m #[Value.ref b] below meth c H locs cells slots Q (F0 m 606 ls []) := by
  obtain ⟨hx, hb, hml, hown, hts⟩ := id F
  have hA : ∀ q, s.heap.size ≤ q → lA s q := fun q h => h
  have hbA : ¬ lA s b := Nat.not_le.mpr hbl
  have f_x : pAt h (ad 0) (oX (ad 1) (ad 2) (ad 3) (ad 4) (ad 5) (ad 6)) := hC.1
  refine lv_aload_n hx hb dL_law_606 rfl (lv_at hl 3 rfl) ?_
  refine lw_arg (j := 1) (n := 1) (i0 := 4) (i4 := 0) hx hb hX hbl hbA hw.2.2 (by decide) hk hL hl rfl rfl (by decide) dL_law_607 dL_law_608 dL_law_610 dL_law_611 dL_law_612 ?_
  refine lw_arg (j := 2) (n := 2) (i0 := 4) (i4 := 0) hx hb hX hbl hbA hw.2.2 (by decide) hk hL hl rfl rfl (by decide) dL_law_613 dL_law_614 dL_law_616 dL_law_617 dL_law_618 ?_
  refine lv_aload_n hx hb dL_law_619 rfl (lv_at hl 1 rfl) ?_
  have hwL : wW G (lA s) s.heap (mW Y xm adm (d, sc, sz, sg, ik, cp, wt, wa, ch, ct, th) ++ wL Y o (g, h)) H locs := by
    have hw9 := hw
    unfold lW at hw9
    rw [List.append_assoc] at hw9
    exact hw9
  have hrun := vx_runSW (R := room_1) F (c_L_sign l hl9 G Y h o g ad dk BK bS bN bV bT vA sA ink cop wai O nx he C tl (xs (7 * k + 1)) (xs (7 * k + 2)) hC H.size) (vx_cwSW 4 hts gL_law_L_sign rfl rfl rfl (by decide +kernel) ⟨Nat.le_of_ble_eq_true rfl, Nat.le_of_ble_eq_true rfl⟩) (As := [.ref (ad 0), .int (xs (7 * k + 1)), .int (xs (7 * k + 2)), .ref o]) (rest := []) (g := F0 m 620 ls [.ref o, .int (xs (7 * k + 2)), .int (xs (7 * k + 1)), .ref (ad 0)]) (p := p) (e := e) (m := m) (c := c) (below := below) (meth := meth) (H := H) (locs := locs) (cells := cells) (slots := slots) ⟨xPre_blind, fun U hU hW => xPre_at hA hK hE hwL U hU hW⟩ rfl rfl hl.1 rfl (lv_room (Nat.le_of_ble_eq_true rfl)) dL_law_620 ⟨show cells + 1 ≤ 601024 by omega, show slots + 6 ≤ 7293034 by omega⟩
  refine ct_goi (wf := wL Y o) (u := (g, h)) (wr := mW Y xm adm (d, sc, sz, sg, ik, cp, wt, wa, ch, ct, th)) (rm := { frames := 7, cells := 1, slots := 6, locals := 140 }) hK hwL hA hrun (fun r1 u1 H1 locs1 hp1 hw1 => ?_)
  obtain ⟨g1, h1⟩ := u1
  obtain ⟨eh, hp1⟩ := hp1
  have eh : h1 = h := eh
  subst eh
  have hw1 : wW G (lA s) s.heap (lW Y xm adm o (d, sc, sz, sg, ik, cp, wt, wa, ch, ct, th) g1 h1) H1 locs1 := by
    unfold lW
    rw [List.append_assoc]
    exact hw1
  refine lv_istore (lv' := [(5, .int r1), (4, .int (nI (7 * k))), (3, .ref o), (2, .ref xm), (1, .ref (ad 0)), (0, .ref b)]) hx hb dL_law_623 hl (by decide) rfl (fun ls hl => ?_)
  refine lv_aload_n hx hb dL_law_625 rfl (lv_at hl 3 rfl) ?_
  refine lw_arg (j := 1) (n := 1) (i0 := 5) (i4 := 1) hx hb hX hbl hbA hw1.2.2 (by decide) hk hL hl rfl rfl (by decide) dL_law_626 dL_law_627 dL_law_629 dL_law_630 dL_law_631 ?_
  refine lw_arg (j := 2) (n := 2) (i0 := 5) (i4 := 1) hx hb hX hbl hbA hw1.2.2 (by decide) hk hL hl rfl rfl (by decide) dL_law_632 dL_law_633 dL_law_635 dL_law_636 dL_law_637 ?_
  refine lw_callMJ (c_m_sign l G Y xm adm d sc sz sg ik cp wt wa ch ct th (xs (7 * k + 1)) (xs (7 * k + 2)) hS.dOK hS.zOK) F (cwV 2 hts gL_law_X5_sign rfl rfl rfl (by decide +kernel) ⟨Nat.le_of_ble_eq_true rfl, Nat.le_of_ble_eq_true rfl⟩) hK hw1 hA rfl rfl hl.1 (Nat.le_of_ble_eq_true rfl) dL_law_638 ⟨show cells + 1 + 0 ≤ 601024 by omega, show slots + 6 + 0 ≤ 7293034 by omega⟩ (fun v2 u2 H2 locs2 hp2 hw2 => ?_)
  refine lv_lstore (lv' := [(6, .long v2), (5, .int r1), (4, .int (nI (7 * k))), (3, .ref o), (2, .ref xm), (1, .ref (ad 0)), (0, .ref b)]) hx hb dL_law_641 hl (by decide) rfl (fun ls hl => ?_)
  refine lv_aload_n hx hb dL_law_643 rfl (lv_at hl 4 rfl) ?_
  have fin : ∀ (th9 : Int32) (H9 : Heap) (locs9 : List Loc), wW G (lA s) s.heap (lW Y xm adm o (d, sc, sz, sg, ik, cp, wt, wa, ch, ct, th9) g1 h1) H9 locs9 → W p l e room_1 s m #[Value.ref b] below meth c H9 locs9 (cells + 1 + 0 + 0) (slots + 6 + 0 + 0) Q (F0 m 670 ls []) := fun th9 H9 locs9 hw9 =>
    lv_goto (tgt := 809) hx hb dL_law_670 (by decide) (tail _ g1 h1 H9 locs9 _ _ ls (sOut.up ⟨_, hC, hS.th⟩ (by omega)) hw9 (lv_sub hl [2, 3, 4, 5, 6] rfl) (by omega) (by omega))
  rcases sim_sign hS hp2 with ⟨m1, em, rfl⟩ | ⟨m1, m2, em, rfl⟩ | ⟨m1, m2, em, rfl⟩
  · rcases hp1 with ⟨c1, -⟩ | ⟨c1, rfl⟩ | ⟨c1, -⟩
    · exact absurd c1 m1
    · skip
      refine lw_callM (c_m_thrown l G Y xm adm d sc sz sg ik cp wt wa ch ct 1) F (cwV 0 hts gL_law_X5_thrown rfl rfl rfl (by decide +kernel) ⟨Nat.le_of_ble_eq_true rfl, Nat.le_of_ble_eq_true rfl⟩) hK hw2 hA rfl rfl hl.1 (Nat.le_of_ble_eq_true rfl) dL_law_644 ⟨show cells + 1 + 0 + 0 ≤ 601024 by omega, show slots + 6 + 0 + 0 ≤ 7293034 by omega⟩ (fun r3 u3 H3 locs3 hp3 hw3 => ?_)
      obtain ⟨rfl, rfl⟩ := hp3
      refine lv_iload hx hb dL_law_647 (lv_at hl 1 rfl) ?_
      refine lv_icmp_eq (tgt := 654) hx hb dL_law_649 (by decide) (fun _ => ?_) (fun c9 => absurd rfl c9)
      refine lv_iload hx hb dL_law_654 (lv_at hl 1 rfl) ?_
      exact lv_if_ne (tgt := 670) hx hb dL_law_656 (by decide) (fun _ => fin _ _ _ hw3) (fun c9 => absurd c9 (by decide))
    · exact absurd c1.1 m1
  · rcases hp1 with ⟨c1, c2, -⟩ | ⟨c1, -⟩ | ⟨c1, rfl⟩
    · exact absurd c2 m2
    · exact absurd m1 c1
    · skip
      refine lw_callM (c_m_thrown l G Y xm adm d sc sz sg ik cp wt wa ch ct 2) F (cwV 0 hts gL_law_X5_thrown rfl rfl rfl (by decide +kernel) ⟨Nat.le_of_ble_eq_true rfl, Nat.le_of_ble_eq_true rfl⟩) hK hw2 hA rfl rfl hl.1 (Nat.le_of_ble_eq_true rfl) dL_law_644 ⟨show cells + 1 + 0 + 0 ≤ 601024 by omega, show slots + 6 + 0 + 0 ≤ 7293034 by omega⟩ (fun r3 u3 H3 locs3 hp3 hw3 => ?_)
      obtain ⟨rfl, rfl⟩ := hp3
      refine lv_iload hx hb dL_law_647 (lv_at hl 1 rfl) ?_
      refine lv_icmp_eq (tgt := 654) hx hb dL_law_649 (by decide) (fun _ => ?_) (fun c9 => absurd rfl c9)
      refine lv_iload hx hb dL_law_654 (lv_at hl 1 rfl) ?_
      exact lv_if_ne (tgt := 670) hx hb dL_law_656 (by decide) (fun _ => fin _ _ _ hw3) (fun c9 => absurd c9 (by decide))
  · rcases hp1 with ⟨c1, c2, rfl, ev⟩ | ⟨c1, -⟩ | ⟨c1, -⟩
    · skip
      refine lw_callM (c_m_thrown l G Y xm adm d sc sz sg ik cp wt wa ch ct 0) F (cwV 0 hts gL_law_X5_thrown rfl rfl rfl (by decide +kernel) ⟨Nat.le_of_ble_eq_true rfl, Nat.le_of_ble_eq_true rfl⟩) hK hw2 hA rfl rfl hl.1 (Nat.le_of_ble_eq_true rfl) dL_law_644 ⟨show cells + 1 + 0 + 0 ≤ 601024 by omega, show slots + 6 + 0 + 0 ≤ 7293034 by omega⟩ (fun r3 u3 H3 locs3 hp3 hw3 => ?_)
      obtain ⟨rfl, rfl⟩ := hp3
      refine lv_iload hx hb dL_law_647 (lv_at hl 1 rfl) ?_
      refine lv_icmp_eq (tgt := 654) hx hb dL_law_649 (by decide) (fun _ => ?_) (fun c9 => absurd rfl c9)
      refine lv_iload hx hb dL_law_654 (lv_at hl 1 rfl) ?_
      refine lv_if_ne (tgt := 670) hx hb dL_law_656 (by decide) (fun c9 => absurd rfl c9) (fun _ => ?_)
      refine lv_aload_n hx hb dL_law_659 rfl (lv_at hl 3 rfl) ?_
      refine lv_iconst (v := 0) hx hb dL_law_660 (by decide) ?_
      refine va_lald (n := 1) (f := g1) hx hb hK.1 hw3.1 11 1 rfl rfl (vp_in_nI (n := 0) (by decide) (by decide)) dL_law_661 ?_
      refine lv_lload hx hb dL_law_662 (lv_at hl 0 rfl) ?_
      refine W.lcmp hx hb dL_law_664 ?_
      refine lv_if_eq (tgt := 670) hx hb dL_law_665 (by decide) (fun _ => fin _ _ _ hw3) (fun c9 => absurd (lcmp0.mpr ?_) c9)
      exact ev.trans em.symm
    · exact absurd m1 c1
    · exact absurd m2 c1.2
