/-! THE LAW: the cases of its switch -/
set_option maxHeartbeats 4000000 in
set_option maxRecDepth 100000 in
/-- ask -/
theorem a_ask {p : Program} {l : Launch} {e : Env} {s : State} {m : MethodId} {below : List Frame} {meth : Method} {c : Code} {b L : Nat} {xs : Nat → Int32} {Q : State → Prop} (hst : l.stackTraces = false) (C0 : la p s m c b L xs) (hL : L ≤ 2048) (G : gs_G) (q qy : Nat → Nat) (qo : Nat) (S : hs_S) (r : xr × (Nat → Int64)) (y : yr) (hS : rx S r.1) (hY : ry S y) (hI : hs_I S) (i : Nat) (hi : i + 3 < L) (cells slots : Nat) (hc : cells + 4 ≤ 601024) (hs : slots + 24 ≤ 7293034) (H : Heap) (locs : List Loc) (ls : Array Slot) (hz : laZ G q qy qo r y s H locs) (hl : laL ls b q qy qo i) (kk : laK p l e s m below meth c b G q qy qo i cells slots Q) : W p l e room_1 s m #[Value.ref b] below meth c H locs cells slots Q (F0 m 112 ls []) := by
  have hl : lv_has ls 7 [(0, .ref b), (1, .ref (q 0)), (2, .ref (qy 0)), (3, .ref qo), (4, .int (nI i))] := hl
  obtain ⟨t, et⟩ : ∃ t, t = sp_ask S (xs (i + 1)) (decide (xs (i + 2) ≠ 0)) := ⟨_, rfl⟩
  have hg : gd S 1 t := by rw [et]; exact gd_ask
  have hIt : hs_I t.2.2 := by rw [et]; exact sp_ask_I hI
  refine lv_aload_n C0.1.1 C0.1.2.1 dL_law_112 rfl (lv_at hl 1 rfl) ?_
  refine lv_aload_n C0.1.1 C0.1.2.1 dL_law_113 rfl (lv_at hl 0 rfl) ?_
  refine lv_iload C0.1.1 C0.1.2.1 dL_law_114 (lv_at hl 4 rfl) ?_
  refine lv_iconst (v := nI 1) C0.1.1 C0.1.2.1 dL_law_116 (by decide) ?_
  refine lv_iadd C0.1.1 C0.1.2.1 dL_law_117 ?_
  refine gs_eq (nI_add i 1) ?_
  refine gl_ld C0 hz (by omega) hL dL_law_118 ?_
  refine lv_aload_n C0.1.1 C0.1.2.1 dL_law_119 rfl (lv_at hl 0 rfl) ?_
  refine lv_iload C0.1.1 C0.1.2.1 dL_law_120 (lv_at hl 4 rfl) ?_
  refine lv_iconst (v := nI 2) C0.1.1 C0.1.2.1 dL_law_122 (by decide) ?_
  refine lv_iadd C0.1.1 C0.1.2.1 dL_law_123 ?_
  refine gs_eq (nI_add i 2) ?_
  refine gl_ld C0 hz (by omega) hL dL_law_124 ?_
  refine gl_bool C0.1.1 C0.1.2.1 dL_law_125 dL_law_128 dL_law_129 dL_law_132 ?_
  refine lv_aload_n C0.1.1 C0.1.2.1 dL_law_133 rfl (lv_at hl 3 rfl) ?_
  refine gh_callS (w := hw G q qo) (wr := yw G qy y) C0.1 (h_ask l hst G q qo r S hS hI (xs (i + 1)) (decide (xs (i + 2) ≠ 0))) (vx_cwSW 4 C0.1.2.2.2.2 gL_law_L_ask rfl rfl rfl (by decide +kernel) ⟨Nat.le_of_ble_eq_true rfl, Nat.le_of_ble_eq_true rfl⟩) hz C0.2.2.2.1 C0.2.2.2.2 rfl hl.1 rfl (Nat.le_of_ble_eq_true rfl) dL_law_134 ⟨hc, hs⟩ (fun k1 u H locs hp1 hz => ?_)
  rw [← et] at hp1
  replace hz := gs_swap hz
  refine lv_istore (lv' := [(5, .int k1), (0, .ref b), (1, .ref (q 0)), (2, .ref (qy 0)), (3, .ref qo), (4, .int (nI i))]) C0.1.1 C0.1.2.1 dL_law_137 hl (by decide) rfl (fun ls hl => ?_)
  refine lv_aload_n C0.1.1 C0.1.2.1 dL_law_139 rfl (lv_at hl 3 rfl) ?_
  refine lv_aload_n C0.1.1 C0.1.2.1 dL_law_140 rfl (lv_at hl 1 rfl) ?_
  refine lv_iload C0.1.1 C0.1.2.1 dL_law_141 (lv_at hl 5 rfl) ?_
  refine lv_iconst (v := nI 1) C0.1.1 C0.1.2.1 dL_law_143 (by decide) ?_
  refine lv_iadd C0.1.1 C0.1.2.1 dL_law_144 ?_
  refine gs_eq (nI_add i 1) ?_
  refine gl_ld C0 hz (by omega) hL dL_law_145 ?_
  refine lv_aload_n C0.1.1 C0.1.2.1 dL_law_146 rfl (lv_at hl 1 rfl) ?_
  refine lv_iload C0.1.1 C0.1.2.1 dL_law_147 (lv_at hl 5 rfl) ?_
  refine lv_iconst (v := nI 2) C0.1.1 C0.1.2.1 dL_law_149 (by decide) ?_
  refine lv_iadd C0.1.1 C0.1.2.1 dL_law_150 ?_
  refine gs_eq (nI_add i 2) ?_
  refine gl_ld C0 hz (by omega) hL dL_law_151 ?_
  refine gl_bool C0.1.1 C0.1.2.1 dL_law_152 dL_law_155 dL_law_156 dL_law_159 ?_
  refine gs_callVi (w := yw G qy) (wr := hw G q qo u) C0.1 (m_ask l G qy y S hY hI (xs (i + 1)) (decide (xs (i + 2) ≠ 0))) (cwV 2 C0.1.2.2.2.2 gL_law_X1_ask rfl rfl rfl (by decide +kernel) ⟨Nat.le_of_ble_eq_true rfl, Nat.le_of_ble_eq_true rfl⟩) (ci := 1) rfl rfl rfl hz rfl hl.1 rfl (Nat.le_of_ble_eq_true rfl) dL_law_160 ⟨hc, hs⟩ (fun k2 y2 H locs hp2 hz => ?_)
  rw [← et] at hp2
  refine lv_istore (lv' := [(6, .int k2), (5, .int k1), (0, .ref b), (1, .ref (q 0)), (2, .ref (qy 0)), (3, .ref qo), (4, .int (nI i))]) C0.1.1 C0.1.2.1 dL_law_163 hl (by decide) rfl (fun ls hl => ?_)
  refine lv_aload_n C0.1.1 C0.1.2.1 dL_law_165 rfl (lv_at hl 4 rfl) ?_
  refine gs_callVi (w := yw G qy) (wr := hw G q qo u) C0.1 (m_thrown l G qy y2) (cwV 0 C0.1.2.2.2.2 gL_law_X1_thrown rfl rfl rfl (by decide +kernel) ⟨Nat.le_of_ble_eq_true rfl, Nat.le_of_ble_eq_true rfl⟩) (ci := 1) rfl rfl rfl hz rfl hl.1 rfl (Nat.le_of_ble_eq_true rfl) dL_law_166 ⟨hc, hs⟩ (fun k3 y3 H locs hp3 hz => ?_)
  rw [hp3.1] at hz
  refine gs_eq (y := y_th y2) hp3.2 ?_
  refine lv_iload C0.1.1 C0.1.2.1 dL_law_169 (lv_at hl 1 rfl) ?_
  refine lv_icmp_eq (tgt := 176) C0.1.1 C0.1.2.1 dL_law_171 (by decide) (fun _ => ?_) (fun c9 => absurd (by rw [hp2.1, hp1.1]) c9)
  refine lv_iload C0.1.1 C0.1.2.1 dL_law_176 (lv_at hl 1 rfl) ?_
  by_cases ht : t.1 = 0
  · skip
    refine lv_if_ne (tgt := 193) C0.1.1 C0.1.2.1 dL_law_178 (by decide) (fun c9 => absurd (by rw [hp1.1, ht]; rfl) c9) (fun _ => ?_)
    refine lv_aload_n C0.1.1 C0.1.2.1 dL_law_181 rfl (lv_at hl 5 rfl) ?_
    refine lv_iconst (v := nI 0) C0.1.1 C0.1.2.1 dL_law_182 (by decide) ?_
    refine va_lald C0.1.1 C0.1.2.1 hz.1 hz.2.1 16 2 (cA := G.2.2.2) (n := 1) (f := u.2) rfl rfl (vp_in_nI (by decide) (by decide)) dL_law_183 ?_
    refine gl_eqL (y := t.2.1.toInt64) (by rw [nI_clamp (by decide)]; exact hp1.2.1 ht) ?_
    refine lv_iload C0.1.1 C0.1.2.1 dL_law_184 (lv_at hl 0 rfl) ?_
    refine lv_i2l (v := t.2.1.toInt64) C0.1.1 C0.1.2.1 dL_law_186 (by rw [hp2.2.1 ht]) ?_
    refine W.lcmp C0.1.1 C0.1.2.1 dL_law_187 ?_
    refine lv_if_eq (tgt := 193) C0.1.1 C0.1.2.1 dL_law_188 (by decide) (fun _ => ?_) (fun c9 => absurd ((lg_cmp_eq _ _).mpr rfl) c9)
    refine lv_goto (tgt := 1069) C0.1.1 C0.1.2.1 dL_law_193 (by decide) ?_
    have hl : lv_has ls 7 [(0, .ref b), (1, .ref (q 0)), (2, .ref (qy 0)), (3, .ref qo), (4, .int (nI i))] := lv_sub hl [2, 3, 4, 5, 6] rfl
    exact kk t.2.2 u y2 _ _ ls hp1.2.2 hp2.2.2 hIt (gs_swap hz) hl
  · skip
    have hg1 := hg.1
    refine lv_if_ne (tgt := 193) C0.1.1 C0.1.2.1 dL_law_178 (by decide) (fun _ => ?_) (fun c9 => absurd c9 (by rw [hp1.1, n0_eq (by omega)]; exact ht))
    refine lv_goto (tgt := 1069) C0.1.1 C0.1.2.1 dL_law_193 (by decide) ?_
    have hl : lv_has ls 7 [(0, .ref b), (1, .ref (q 0)), (2, .ref (qy 0)), (3, .ref qo), (4, .int (nI i))] := lv_sub hl [2, 3, 4, 5, 6] rfl
    exact kk t.2.2 u y2 _ _ ls hp1.2.2 hp2.2.2 hIt (gs_swap hz) hl
set_option maxHeartbeats 4000000 in
set_option maxRecDepth 100000 in
/-- drop -/
theorem a_drop {p : Program} {l : Launch} {e : Env} {s : State} {m : MethodId} {below : List Frame} {meth : Method} {c : Code} {b L : Nat} {xs : Nat → Int32} {Q : State → Prop} (hst : l.stackTraces = false) (C0 : la p s m c b L xs) (hL : L ≤ 2048) (G : gs_G) (q qy : Nat → Nat) (qo : Nat) (S : hs_S) (r : xr × (Nat → Int64)) (y : yr) (hS : rx S r.1) (hY : ry S y) (hI : hs_I S) (i : Nat) (hi : i + 3 < L) (cells slots : Nat) (hc : cells + 4 ≤ 601024) (hs : slots + 24 ≤ 7293034) (H : Heap) (locs : List Loc) (ls : Array Slot) (hz : laZ G q qy qo r y s H locs) (hl : laL ls b q qy qo i) (kk : laK p l e s m below meth c b G q qy qo i cells slots Q) : W p l e room_1 s m #[Value.ref b] below meth c H locs cells slots Q (F0 m 196 ls []) := by
  have hl : lv_has ls 7 [(0, .ref b), (1, .ref (q 0)), (2, .ref (qy 0)), (3, .ref qo), (4, .int (nI i))] := hl
  obtain ⟨t, et⟩ : ∃ t, t = sp_drop S (xs (i + 1)) := ⟨_, rfl⟩
  have hg : gd S 1 t := by rw [et]; exact gd_drop
  have hIt : hs_I t.2.2 := by rw [et]; exact sp_drop_I hI
  refine lv_aload_n C0.1.1 C0.1.2.1 dL_law_196 rfl (lv_at hl 1 rfl) ?_
  refine lv_aload_n C0.1.1 C0.1.2.1 dL_law_197 rfl (lv_at hl 0 rfl) ?_
  refine lv_iload C0.1.1 C0.1.2.1 dL_law_198 (lv_at hl 4 rfl) ?_
  refine lv_iconst (v := nI 1) C0.1.1 C0.1.2.1 dL_law_200 (by decide) ?_
  refine lv_iadd C0.1.1 C0.1.2.1 dL_law_201 ?_
  refine gs_eq (nI_add i 1) ?_
  refine gl_ld C0 hz (by omega) hL dL_law_202 ?_
  refine lv_aload_n C0.1.1 C0.1.2.1 dL_law_203 rfl (lv_at hl 3 rfl) ?_
  refine gh_callS (w := hw G q qo) (wr := yw G qy y) C0.1 (h_drop l hst G q qo r S hS hI (xs (i + 1))) (vx_cwSW 3 C0.1.2.2.2.2 gL_law_L_drop rfl rfl rfl (by decide +kernel) ⟨Nat.le_of_ble_eq_true rfl, Nat.le_of_ble_eq_true rfl⟩) hz C0.2.2.2.1 C0.2.2.2.2 rfl hl.1 rfl (Nat.le_of_ble_eq_true rfl) dL_law_204 ⟨hc, hs⟩ (fun k1 u H locs hp1 hz => ?_)
  rw [← et] at hp1
  replace hz := gs_swap hz
  refine lv_istore (lv' := [(5, .int k1), (0, .ref b), (1, .ref (q 0)), (2, .ref (qy 0)), (3, .ref qo), (4, .int (nI i))]) C0.1.1 C0.1.2.1 dL_law_207 hl (by decide) rfl (fun ls hl => ?_)
  refine lv_aload_n C0.1.1 C0.1.2.1 dL_law_209 rfl (lv_at hl 3 rfl) ?_
  refine lv_aload_n C0.1.1 C0.1.2.1 dL_law_210 rfl (lv_at hl 1 rfl) ?_
  refine lv_iload C0.1.1 C0.1.2.1 dL_law_211 (lv_at hl 5 rfl) ?_
  refine lv_iconst (v := nI 1) C0.1.1 C0.1.2.1 dL_law_213 (by decide) ?_
  refine lv_iadd C0.1.1 C0.1.2.1 dL_law_214 ?_
  refine gs_eq (nI_add i 1) ?_
  refine gl_ld C0 hz (by omega) hL dL_law_215 ?_
  refine gs_callVi (w := yw G qy) (wr := hw G q qo u) C0.1 (m_drop l G qy y S hY (xs (i + 1))) (cwV 1 C0.1.2.2.2.2 gL_law_X1_drop rfl rfl rfl (by decide +kernel) ⟨Nat.le_of_ble_eq_true rfl, Nat.le_of_ble_eq_true rfl⟩) (ci := 1) rfl rfl rfl hz rfl hl.1 rfl (Nat.le_of_ble_eq_true rfl) dL_law_216 ⟨hc, hs⟩ (fun k2 y2 H locs hp2 hz => ?_)
  rw [← et] at hp2
  refine lv_istore (lv' := [(6, .int k2), (5, .int k1), (0, .ref b), (1, .ref (q 0)), (2, .ref (qy 0)), (3, .ref qo), (4, .int (nI i))]) C0.1.1 C0.1.2.1 dL_law_219 hl (by decide) rfl (fun ls hl => ?_)
  refine lv_aload_n C0.1.1 C0.1.2.1 dL_law_221 rfl (lv_at hl 4 rfl) ?_
  refine gs_callVi (w := yw G qy) (wr := hw G q qo u) C0.1 (m_thrown l G qy y2) (cwV 0 C0.1.2.2.2.2 gL_law_X1_thrown rfl rfl rfl (by decide +kernel) ⟨Nat.le_of_ble_eq_true rfl, Nat.le_of_ble_eq_true rfl⟩) (ci := 1) rfl rfl rfl hz rfl hl.1 rfl (Nat.le_of_ble_eq_true rfl) dL_law_222 ⟨hc, hs⟩ (fun k3 y3 H locs hp3 hz => ?_)
  rw [hp3.1] at hz
  refine gs_eq (y := y_th y2) hp3.2 ?_
  refine lv_iload C0.1.1 C0.1.2.1 dL_law_225 (lv_at hl 1 rfl) ?_
  refine lv_icmp_eq (tgt := 232) C0.1.1 C0.1.2.1 dL_law_227 (by decide) (fun _ => ?_) (fun c9 => absurd (by rw [hp2.1, hp1.1]) c9)
  refine lv_iload C0.1.1 C0.1.2.1 dL_law_232 (lv_at hl 1 rfl) ?_
  by_cases ht : t.1 = 0
  · skip
    refine lv_if_ne (tgt := 249) C0.1.1 C0.1.2.1 dL_law_234 (by decide) (fun c9 => absurd (by rw [hp1.1, ht]; rfl) c9) (fun _ => ?_)
    refine lv_aload_n C0.1.1 C0.1.2.1 dL_law_237 rfl (lv_at hl 5 rfl) ?_
    refine lv_iconst (v := nI 0) C0.1.1 C0.1.2.1 dL_law_238 (by decide) ?_
    refine va_lald C0.1.1 C0.1.2.1 hz.1 hz.2.1 16 2 (cA := G.2.2.2) (n := 1) (f := u.2) rfl rfl (vp_in_nI (by decide) (by decide)) dL_law_239 ?_
    refine gl_eqL (y := t.2.1.toInt64) (by rw [nI_clamp (by decide)]; exact hp1.2.1 ht) ?_
    refine lv_iload C0.1.1 C0.1.2.1 dL_law_240 (lv_at hl 0 rfl) ?_
    refine lv_i2l (v := t.2.1.toInt64) C0.1.1 C0.1.2.1 dL_law_242 (by rw [hp2.2.1 ht]) ?_
    refine W.lcmp C0.1.1 C0.1.2.1 dL_law_243 ?_
    refine lv_if_eq (tgt := 249) C0.1.1 C0.1.2.1 dL_law_244 (by decide) (fun _ => ?_) (fun c9 => absurd ((lg_cmp_eq _ _).mpr rfl) c9)
    refine lv_goto (tgt := 1069) C0.1.1 C0.1.2.1 dL_law_249 (by decide) ?_
    have hl : lv_has ls 7 [(0, .ref b), (1, .ref (q 0)), (2, .ref (qy 0)), (3, .ref qo), (4, .int (nI i))] := lv_sub hl [2, 3, 4, 5, 6] rfl
    exact kk t.2.2 u y2 _ _ ls hp1.2.2 hp2.2.2 hIt (gs_swap hz) hl
  · skip
    have hg1 := hg.1
    refine lv_if_ne (tgt := 249) C0.1.1 C0.1.2.1 dL_law_234 (by decide) (fun _ => ?_) (fun c9 => absurd c9 (by rw [hp1.1, n0_eq (by omega)]; exact ht))
    refine lv_goto (tgt := 1069) C0.1.1 C0.1.2.1 dL_law_249 (by decide) ?_
    have hl : lv_has ls 7 [(0, .ref b), (1, .ref (q 0)), (2, .ref (qy 0)), (3, .ref qo), (4, .int (nI i))] := lv_sub hl [2, 3, 4, 5, 6] rfl
    exact kk t.2.2 u y2 _ _ ls hp1.2.2 hp2.2.2 hIt (gs_swap hz) hl
set_option maxHeartbeats 4000000 in
set_option maxRecDepth 100000 in
/-- resize -/
theorem a_resize {p : Program} {l : Launch} {e : Env} {s : State} {m : MethodId} {below : List Frame} {meth : Method} {c : Code} {b L : Nat} {xs : Nat → Int32} {Q : State → Prop} (hst : l.stackTraces = false) (C0 : la p s m c b L xs) (hL : L ≤ 2048) (G : gs_G) (q qy : Nat → Nat) (qo : Nat) (S : hs_S) (r : xr × (Nat → Int64)) (y : yr) (hS : rx S r.1) (hY : ry S y) (hI : hs_I S) (i : Nat) (hi : i + 3 < L) (cells slots : Nat) (hc : cells + 4 ≤ 601024) (hs : slots + 24 ≤ 7293034) (H : Heap) (locs : List Loc) (ls : Array Slot) (hz : laZ G q qy qo r y s H locs) (hl : laL ls b q qy qo i) (kk : laK p l e s m below meth c b G q qy qo i cells slots Q) : W p l e room_1 s m #[Value.ref b] below meth c H locs cells slots Q (F0 m 252 ls []) := by
  have hl : lv_has ls 7 [(0, .ref b), (1, .ref (q 0)), (2, .ref (qy 0)), (3, .ref qo), (4, .int (nI i))] := hl
  obtain ⟨t, et⟩ : ∃ t, t = sp_resize S (xs (i + 1)) (xs (i + 2)) := ⟨_, rfl⟩
  have hg : gd S 1 t := by rw [et]; exact gd_resize
  have hbl : bl t := by rw [et]; exact bl_resize
  have hIt : hs_I t.2.2 := by rw [et]; exact sp_resize_I hI
  refine lv_aload_n C0.1.1 C0.1.2.1 dL_law_252 rfl (lv_at hl 1 rfl) ?_
  refine lv_aload_n C0.1.1 C0.1.2.1 dL_law_253 rfl (lv_at hl 0 rfl) ?_
  refine lv_iload C0.1.1 C0.1.2.1 dL_law_254 (lv_at hl 4 rfl) ?_
  refine lv_iconst (v := nI 1) C0.1.1 C0.1.2.1 dL_law_256 (by decide) ?_
  refine lv_iadd C0.1.1 C0.1.2.1 dL_law_257 ?_
  refine gs_eq (nI_add i 1) ?_
  refine gl_ld C0 hz (by omega) hL dL_law_258 ?_
  refine lv_aload_n C0.1.1 C0.1.2.1 dL_law_259 rfl (lv_at hl 0 rfl) ?_
  refine lv_iload C0.1.1 C0.1.2.1 dL_law_260 (lv_at hl 4 rfl) ?_
  refine lv_iconst (v := nI 2) C0.1.1 C0.1.2.1 dL_law_262 (by decide) ?_
  refine lv_iadd C0.1.1 C0.1.2.1 dL_law_263 ?_
  refine gs_eq (nI_add i 2) ?_
  refine gl_ld C0 hz (by omega) hL dL_law_264 ?_
  refine lv_aload_n C0.1.1 C0.1.2.1 dL_law_265 rfl (lv_at hl 3 rfl) ?_
  refine gh_callS (w := hw G q qo) (wr := yw G qy y) C0.1 (h_resize l hst G q qo r S hS hI (xs (i + 1)) (xs (i + 2))) (vx_cwSW 4 C0.1.2.2.2.2 gL_law_L_resize rfl rfl rfl (by decide +kernel) ⟨Nat.le_of_ble_eq_true rfl, Nat.le_of_ble_eq_true rfl⟩) hz C0.2.2.2.1 C0.2.2.2.2 rfl hl.1 rfl (Nat.le_of_ble_eq_true rfl) dL_law_266 ⟨hc, hs⟩ (fun k1 u H locs hp1 hz => ?_)
  rw [← et] at hp1
  replace hz := gs_swap hz
  refine lv_istore (lv' := [(5, .int k1), (0, .ref b), (1, .ref (q 0)), (2, .ref (qy 0)), (3, .ref qo), (4, .int (nI i))]) C0.1.1 C0.1.2.1 dL_law_269 hl (by decide) rfl (fun ls hl => ?_)
  refine lv_aload_n C0.1.1 C0.1.2.1 dL_law_271 rfl (lv_at hl 3 rfl) ?_
  refine lv_aload_n C0.1.1 C0.1.2.1 dL_law_272 rfl (lv_at hl 1 rfl) ?_
  refine lv_iload C0.1.1 C0.1.2.1 dL_law_273 (lv_at hl 5 rfl) ?_
  refine lv_iconst (v := nI 1) C0.1.1 C0.1.2.1 dL_law_275 (by decide) ?_
  refine lv_iadd C0.1.1 C0.1.2.1 dL_law_276 ?_
  refine gs_eq (nI_add i 1) ?_
  refine gl_ld C0 hz (by omega) hL dL_law_277 ?_
  refine lv_aload_n C0.1.1 C0.1.2.1 dL_law_278 rfl (lv_at hl 1 rfl) ?_
  refine lv_iload C0.1.1 C0.1.2.1 dL_law_279 (lv_at hl 5 rfl) ?_
  refine lv_iconst (v := nI 2) C0.1.1 C0.1.2.1 dL_law_281 (by decide) ?_
  refine lv_iadd C0.1.1 C0.1.2.1 dL_law_282 ?_
  refine gs_eq (nI_add i 2) ?_
  refine gl_ld C0 hz (by omega) hL dL_law_283 ?_
  refine gs_callVi (w := yw G qy) (wr := hw G q qo u) C0.1 (m_resize l G qy y S hY hI (xs (i + 1)) (xs (i + 2))) (cwV 2 C0.1.2.2.2.2 gL_law_X1_resize rfl rfl rfl (by decide +kernel) ⟨Nat.le_of_ble_eq_true rfl, Nat.le_of_ble_eq_true rfl⟩) (ci := 1) rfl rfl rfl hz rfl hl.1 rfl (Nat.le_of_ble_eq_true rfl) dL_law_284 ⟨hc, hs⟩ (fun k2 y2 H locs hp2 hz => ?_)
  rw [← et] at hp2
  refine lv_istore (lv' := [(6, .int k2), (5, .int k1), (0, .ref b), (1, .ref (q 0)), (2, .ref (qy 0)), (3, .ref qo), (4, .int (nI i))]) C0.1.1 C0.1.2.1 dL_law_287 hl (by decide) rfl (fun ls hl => ?_)
  refine lv_aload_n C0.1.1 C0.1.2.1 dL_law_289 rfl (lv_at hl 4 rfl) ?_
  refine gs_callVi (w := yw G qy) (wr := hw G q qo u) C0.1 (m_thrown l G qy y2) (cwV 0 C0.1.2.2.2.2 gL_law_X1_thrown rfl rfl rfl (by decide +kernel) ⟨Nat.le_of_ble_eq_true rfl, Nat.le_of_ble_eq_true rfl⟩) (ci := 1) rfl rfl rfl hz rfl hl.1 rfl (Nat.le_of_ble_eq_true rfl) dL_law_290 ⟨hc, hs⟩ (fun k3 y3 H locs hp3 hz => ?_)
  rw [hp3.1] at hz
  refine gs_eq (y := y_th y2) hp3.2 ?_
  refine lv_iload C0.1.1 C0.1.2.1 dL_law_293 (lv_at hl 1 rfl) ?_
  refine lv_icmp_eq (tgt := 300) C0.1.1 C0.1.2.1 dL_law_295 (by decide) (fun _ => ?_) (fun c9 => absurd (by rw [hp2.1, hp1.1]) c9)
  refine lv_iload C0.1.1 C0.1.2.1 dL_law_300 (lv_at hl 1 rfl) ?_
  by_cases ht : t.1 = 0
  · skip
    refine lv_if_ne (tgt := 324) C0.1.1 C0.1.2.1 dL_law_302 (by decide) (fun c9 => absurd (by rw [hp1.1, ht]; rfl) c9) (fun _ => ?_)
    refine lv_aload_n C0.1.1 C0.1.2.1 dL_law_305 rfl (lv_at hl 5 rfl) ?_
    refine lv_iconst (v := nI 0) C0.1.1 C0.1.2.1 dL_law_306 (by decide) ?_
    refine va_lald C0.1.1 C0.1.2.1 hz.1 hz.2.1 16 2 (cA := G.2.2.2) (n := 1) (f := u.2) rfl rfl (vp_in_nI (by decide) (by decide)) dL_law_307 ?_
    refine gl_eqL (y := t.2.1.toInt64) (by rw [nI_clamp (by decide)]; exact hp1.2.1 ht) ?_
    refine lv_iload C0.1.1 C0.1.2.1 dL_law_308 (lv_at hl 0 rfl) ?_
    rcases hbl ht with z | z
    · skip
      refine lv_if_eq (tgt := 317) C0.1.1 C0.1.2.1 dL_law_310 (by decide) (fun _ => ?_) (fun c9 => absurd ((hp2.2.1 ht).trans z) c9)
      refine lv_lconst (v := 0) C0.1.1 C0.1.2.1 dL_law_317 rfl ?_
      refine W.lcmp C0.1.1 C0.1.2.1 dL_law_318 ?_
      refine lv_if_eq (tgt := 324) C0.1.1 C0.1.2.1 dL_law_319 (by decide) (fun _ => ?_) (fun c9 => absurd ((lg_cmp_eq _ _).mpr (by rw [z]; rfl)) c9)
      refine lv_goto (tgt := 1069) C0.1.1 C0.1.2.1 dL_law_324 (by decide) ?_
      have hl : lv_has ls 7 [(0, .ref b), (1, .ref (q 0)), (2, .ref (qy 0)), (3, .ref qo), (4, .int (nI i))] := lv_sub hl [2, 3, 4, 5, 6] rfl
      exact kk t.2.2 u y2 _ _ ls hp1.2.2 hp2.2.2 hIt (gs_swap hz) hl
    · skip
      refine lv_if_eq (tgt := 317) C0.1.1 C0.1.2.1 dL_law_310 (by decide) (fun c9 => absurd c9 (by rw [hp2.2.1 ht, z]; decide)) (fun _ => ?_)
      refine lv_lconst (v := 1) C0.1.1 C0.1.2.1 dL_law_313 rfl ?_
      refine lv_goto (tgt := 318) C0.1.1 C0.1.2.1 dL_law_314 (by decide) ?_
      refine W.lcmp C0.1.1 C0.1.2.1 dL_law_318 ?_
      refine lv_if_eq (tgt := 324) C0.1.1 C0.1.2.1 dL_law_319 (by decide) (fun _ => ?_) (fun c9 => absurd ((lg_cmp_eq _ _).mpr (by rw [z]; rfl)) c9)
      refine lv_goto (tgt := 1069) C0.1.1 C0.1.2.1 dL_law_324 (by decide) ?_
      have hl : lv_has ls 7 [(0, .ref b), (1, .ref (q 0)), (2, .ref (qy 0)), (3, .ref qo), (4, .int (nI i))] := lv_sub hl [2, 3, 4, 5, 6] rfl
      exact kk t.2.2 u y2 _ _ ls hp1.2.2 hp2.2.2 hIt (gs_swap hz) hl
  · skip
    have hg1 := hg.1
    refine lv_if_ne (tgt := 324) C0.1.1 C0.1.2.1 dL_law_302 (by decide) (fun _ => ?_) (fun c9 => absurd c9 (by rw [hp1.1, n0_eq (by omega)]; exact ht))
    refine lv_goto (tgt := 1069) C0.1.1 C0.1.2.1 dL_law_324 (by decide) ?_
    have hl : lv_has ls 7 [(0, .ref b), (1, .ref (q 0)), (2, .ref (qy 0)), (3, .ref qo), (4, .int (nI i))] := lv_sub hl [2, 3, 4, 5, 6] rfl
    exact kk t.2.2 u y2 _ _ ls hp1.2.2 hp2.2.2 hIt (gs_swap hz) hl
set_option maxHeartbeats 4000000 in
set_option maxRecDepth 100000 in
/-- lock -/
theorem a_lock {p : Program} {l : Launch} {e : Env} {s : State} {m : MethodId} {below : List Frame} {meth : Method} {c : Code} {b L : Nat} {xs : Nat → Int32} {Q : State → Prop} (hst : l.stackTraces = false) (C0 : la p s m c b L xs) (hL : L ≤ 2048) (G : gs_G) (q qy : Nat → Nat) (qo : Nat) (S : hs_S) (r : xr × (Nat → Int64)) (y : yr) (hS : rx S r.1) (hY : ry S y) (hI : hs_I S) (i : Nat) (hi : i + 3 < L) (cells slots : Nat) (hc : cells + 4 ≤ 601024) (hs : slots + 24 ≤ 7293034) (H : Heap) (locs : List Loc) (ls : Array Slot) (hz : laZ G q qy qo r y s H locs) (hl : laL ls b q qy qo i) (kk : laK p l e s m below meth c b G q qy qo i cells slots Q) : W p l e room_1 s m #[Value.ref b] below meth c H locs cells slots Q (F0 m 327 ls []) := by
  have hl : lv_has ls 7 [(0, .ref b), (1, .ref (q 0)), (2, .ref (qy 0)), (3, .ref qo), (4, .int (nI i))] := hl
  obtain ⟨t, et⟩ : ∃ t, t = sp_lock S (xs (i + 1)) (decide (xs (i + 2) ≠ 0)) := ⟨_, rfl⟩
  have hg : gd S 2 t := by rw [et]; exact gd_lock
  have hbl : bl t := by rw [et]; exact bl_lock
  have hIt : hs_I t.2.2 := by rw [et]; exact sp_lock_I hI
  refine lv_aload_n C0.1.1 C0.1.2.1 dL_law_327 rfl (lv_at hl 1 rfl) ?_
  refine lv_aload_n C0.1.1 C0.1.2.1 dL_law_328 rfl (lv_at hl 0 rfl) ?_
  refine lv_iload C0.1.1 C0.1.2.1 dL_law_329 (lv_at hl 4 rfl) ?_
  refine lv_iconst (v := nI 1) C0.1.1 C0.1.2.1 dL_law_331 (by decide) ?_
  refine lv_iadd C0.1.1 C0.1.2.1 dL_law_332 ?_
  refine gs_eq (nI_add i 1) ?_
  refine gl_ld C0 hz (by omega) hL dL_law_333 ?_
  refine lv_aload_n C0.1.1 C0.1.2.1 dL_law_334 rfl (lv_at hl 0 rfl) ?_
  refine lv_iload C0.1.1 C0.1.2.1 dL_law_335 (lv_at hl 4 rfl) ?_
  refine lv_iconst (v := nI 2) C0.1.1 C0.1.2.1 dL_law_337 (by decide) ?_
  refine lv_iadd C0.1.1 C0.1.2.1 dL_law_338 ?_
  refine gs_eq (nI_add i 2) ?_
  refine gl_ld C0 hz (by omega) hL dL_law_339 ?_
  refine gl_bool C0.1.1 C0.1.2.1 dL_law_340 dL_law_343 dL_law_344 dL_law_347 ?_
  refine lv_aload_n C0.1.1 C0.1.2.1 dL_law_348 rfl (lv_at hl 3 rfl) ?_
  refine gh_callS (w := hw G q qo) (wr := yw G qy y) C0.1 (h_lock l hst G q qo r S hS hI (xs (i + 1)) (decide (xs (i + 2) ≠ 0))) (vx_cwSW 4 C0.1.2.2.2.2 gL_law_L_lock rfl rfl rfl (by decide +kernel) ⟨Nat.le_of_ble_eq_true rfl, Nat.le_of_ble_eq_true rfl⟩) hz C0.2.2.2.1 C0.2.2.2.2 rfl hl.1 rfl (Nat.le_of_ble_eq_true rfl) dL_law_349 ⟨hc, hs⟩ (fun k1 u H locs hp1 hz => ?_)
  rw [← et] at hp1
  replace hz := gs_swap hz
  refine lv_istore (lv' := [(5, .int k1), (0, .ref b), (1, .ref (q 0)), (2, .ref (qy 0)), (3, .ref qo), (4, .int (nI i))]) C0.1.1 C0.1.2.1 dL_law_352 hl (by decide) rfl (fun ls hl => ?_)
  refine lv_aload_n C0.1.1 C0.1.2.1 dL_law_354 rfl (lv_at hl 3 rfl) ?_
  refine lv_aload_n C0.1.1 C0.1.2.1 dL_law_355 rfl (lv_at hl 1 rfl) ?_
  refine lv_iload C0.1.1 C0.1.2.1 dL_law_356 (lv_at hl 5 rfl) ?_
  refine lv_iconst (v := nI 1) C0.1.1 C0.1.2.1 dL_law_358 (by decide) ?_
  refine lv_iadd C0.1.1 C0.1.2.1 dL_law_359 ?_
  refine gs_eq (nI_add i 1) ?_
  refine gl_ld C0 hz (by omega) hL dL_law_360 ?_
  refine lv_aload_n C0.1.1 C0.1.2.1 dL_law_361 rfl (lv_at hl 1 rfl) ?_
  refine lv_iload C0.1.1 C0.1.2.1 dL_law_362 (lv_at hl 5 rfl) ?_
  refine lv_iconst (v := nI 2) C0.1.1 C0.1.2.1 dL_law_364 (by decide) ?_
  refine lv_iadd C0.1.1 C0.1.2.1 dL_law_365 ?_
  refine gs_eq (nI_add i 2) ?_
  refine gl_ld C0 hz (by omega) hL dL_law_366 ?_
  refine gl_bool C0.1.1 C0.1.2.1 dL_law_367 dL_law_370 dL_law_371 dL_law_374 ?_
  refine gs_callVi (w := yw G qy) (wr := hw G q qo u) C0.1 (m_lock l G qy y S hY hI (xs (i + 1)) (decide (xs (i + 2) ≠ 0))) (cwV 2 C0.1.2.2.2.2 gL_law_X1_lock rfl rfl rfl (by decide +kernel) ⟨Nat.le_of_ble_eq_true rfl, Nat.le_of_ble_eq_true rfl⟩) (ci := 1) rfl rfl rfl hz rfl hl.1 rfl (Nat.le_of_ble_eq_true rfl) dL_law_375 ⟨hc, hs⟩ (fun k2 y2 H locs hp2 hz => ?_)
  rw [← et] at hp2
  refine lv_istore (lv' := [(6, .int k2), (5, .int k1), (0, .ref b), (1, .ref (q 0)), (2, .ref (qy 0)), (3, .ref qo), (4, .int (nI i))]) C0.1.1 C0.1.2.1 dL_law_378 hl (by decide) rfl (fun ls hl => ?_)
  refine lv_aload_n C0.1.1 C0.1.2.1 dL_law_380 rfl (lv_at hl 4 rfl) ?_
  refine gs_callVi (w := yw G qy) (wr := hw G q qo u) C0.1 (m_thrown l G qy y2) (cwV 0 C0.1.2.2.2.2 gL_law_X1_thrown rfl rfl rfl (by decide +kernel) ⟨Nat.le_of_ble_eq_true rfl, Nat.le_of_ble_eq_true rfl⟩) (ci := 1) rfl rfl rfl hz rfl hl.1 rfl (Nat.le_of_ble_eq_true rfl) dL_law_381 ⟨hc, hs⟩ (fun k3 y3 H locs hp3 hz => ?_)
  rw [hp3.1] at hz
  refine gs_eq (y := y_th y2) hp3.2 ?_
  refine lv_iload C0.1.1 C0.1.2.1 dL_law_384 (lv_at hl 1 rfl) ?_
  refine lv_icmp_eq (tgt := 391) C0.1.1 C0.1.2.1 dL_law_386 (by decide) (fun _ => ?_) (fun c9 => absurd (by rw [hp2.1, hp1.1]) c9)
  refine lv_iload C0.1.1 C0.1.2.1 dL_law_391 (lv_at hl 1 rfl) ?_
  by_cases ht : t.1 = 0
  · skip
    refine lv_if_ne (tgt := 415) C0.1.1 C0.1.2.1 dL_law_393 (by decide) (fun c9 => absurd (by rw [hp1.1, ht]; rfl) c9) (fun _ => ?_)
    refine lv_aload_n C0.1.1 C0.1.2.1 dL_law_396 rfl (lv_at hl 5 rfl) ?_
    refine lv_iconst (v := nI 0) C0.1.1 C0.1.2.1 dL_law_397 (by decide) ?_
    refine va_lald C0.1.1 C0.1.2.1 hz.1 hz.2.1 16 2 (cA := G.2.2.2) (n := 1) (f := u.2) rfl rfl (vp_in_nI (by decide) (by decide)) dL_law_398 ?_
    refine gl_eqL (y := t.2.1.toInt64) (by rw [nI_clamp (by decide)]; exact hp1.2.1 ht) ?_
    refine lv_iload C0.1.1 C0.1.2.1 dL_law_399 (lv_at hl 0 rfl) ?_
    rcases hbl ht with z | z
    · skip
      refine lv_if_eq (tgt := 408) C0.1.1 C0.1.2.1 dL_law_401 (by decide) (fun _ => ?_) (fun c9 => absurd ((hp2.2.1 ht).trans z) c9)
      refine lv_lconst (v := 0) C0.1.1 C0.1.2.1 dL_law_408 rfl ?_
      refine W.lcmp C0.1.1 C0.1.2.1 dL_law_409 ?_
      refine lv_if_eq (tgt := 415) C0.1.1 C0.1.2.1 dL_law_410 (by decide) (fun _ => ?_) (fun c9 => absurd ((lg_cmp_eq _ _).mpr (by rw [z]; rfl)) c9)
      refine lv_goto (tgt := 1069) C0.1.1 C0.1.2.1 dL_law_415 (by decide) ?_
      have hl : lv_has ls 7 [(0, .ref b), (1, .ref (q 0)), (2, .ref (qy 0)), (3, .ref qo), (4, .int (nI i))] := lv_sub hl [2, 3, 4, 5, 6] rfl
      exact kk t.2.2 u y2 _ _ ls hp1.2.2 hp2.2.2 hIt (gs_swap hz) hl
    · skip
      refine lv_if_eq (tgt := 408) C0.1.1 C0.1.2.1 dL_law_401 (by decide) (fun c9 => absurd c9 (by rw [hp2.2.1 ht, z]; decide)) (fun _ => ?_)
      refine lv_lconst (v := 1) C0.1.1 C0.1.2.1 dL_law_404 rfl ?_
      refine lv_goto (tgt := 409) C0.1.1 C0.1.2.1 dL_law_405 (by decide) ?_
      refine W.lcmp C0.1.1 C0.1.2.1 dL_law_409 ?_
      refine lv_if_eq (tgt := 415) C0.1.1 C0.1.2.1 dL_law_410 (by decide) (fun _ => ?_) (fun c9 => absurd ((lg_cmp_eq _ _).mpr (by rw [z]; rfl)) c9)
      refine lv_goto (tgt := 1069) C0.1.1 C0.1.2.1 dL_law_415 (by decide) ?_
      have hl : lv_has ls 7 [(0, .ref b), (1, .ref (q 0)), (2, .ref (qy 0)), (3, .ref qo), (4, .int (nI i))] := lv_sub hl [2, 3, 4, 5, 6] rfl
      exact kk t.2.2 u y2 _ _ ls hp1.2.2 hp2.2.2 hIt (gs_swap hz) hl
  · skip
    have hg1 := hg.1
    refine lv_if_ne (tgt := 415) C0.1.1 C0.1.2.1 dL_law_393 (by decide) (fun _ => ?_) (fun c9 => absurd c9 (by rw [hp1.1, n0_eq (by omega)]; exact ht))
    refine lv_goto (tgt := 1069) C0.1.1 C0.1.2.1 dL_law_415 (by decide) ?_
    have hl : lv_has ls 7 [(0, .ref b), (1, .ref (q 0)), (2, .ref (qy 0)), (3, .ref qo), (4, .int (nI i))] := lv_sub hl [2, 3, 4, 5, 6] rfl
    exact kk t.2.2 u y2 _ _ ls hp1.2.2 hp2.2.2 hIt (gs_swap hz) hl
set_option maxHeartbeats 4000000 in
set_option maxRecDepth 100000 in
/-- losable -/
theorem a_losable {p : Program} {l : Launch} {e : Env} {s : State} {m : MethodId} {below : List Frame} {meth : Method} {c : Code} {b L : Nat} {xs : Nat → Int32} {Q : State → Prop} (hst : l.stackTraces = false) (C0 : la p s m c b L xs) (hL : L ≤ 2048) (G : gs_G) (q qy : Nat → Nat) (qo : Nat) (S : hs_S) (r : xr × (Nat → Int64)) (y : yr) (hS : rx S r.1) (hY : ry S y) (hI : hs_I S) (i : Nat) (hi : i + 3 < L) (cells slots : Nat) (hc : cells + 4 ≤ 601024) (hs : slots + 24 ≤ 7293034) (H : Heap) (locs : List Loc) (ls : Array Slot) (hz : laZ G q qy qo r y s H locs) (hl : laL ls b q qy qo i) (kk : laK p l e s m below meth c b G q qy qo i cells slots Q) : W p l e room_1 s m #[Value.ref b] below meth c H locs cells slots Q (F0 m 418 ls []) := by
  have hl : lv_has ls 7 [(0, .ref b), (1, .ref (q 0)), (2, .ref (qy 0)), (3, .ref qo), (4, .int (nI i))] := hl
  obtain ⟨t, et⟩ : ∃ t, t = sp_losable S (xs (i + 1)) (decide (xs (i + 2) ≠ 0)) := ⟨_, rfl⟩
  have hg : gd S 2 t := by rw [et]; exact gd_losable
  have hbl : bl t := by rw [et]; exact bl_losable
  have hIt : hs_I t.2.2 := by rw [et]; exact sp_losable_I hI
  refine lv_aload_n C0.1.1 C0.1.2.1 dL_law_418 rfl (lv_at hl 1 rfl) ?_
  refine lv_aload_n C0.1.1 C0.1.2.1 dL_law_419 rfl (lv_at hl 0 rfl) ?_
  refine lv_iload C0.1.1 C0.1.2.1 dL_law_420 (lv_at hl 4 rfl) ?_
  refine lv_iconst (v := nI 1) C0.1.1 C0.1.2.1 dL_law_422 (by decide) ?_
  refine lv_iadd C0.1.1 C0.1.2.1 dL_law_423 ?_
  refine gs_eq (nI_add i 1) ?_
  refine gl_ld C0 hz (by omega) hL dL_law_424 ?_
  refine lv_aload_n C0.1.1 C0.1.2.1 dL_law_425 rfl (lv_at hl 0 rfl) ?_
  refine lv_iload C0.1.1 C0.1.2.1 dL_law_426 (lv_at hl 4 rfl) ?_
  refine lv_iconst (v := nI 2) C0.1.1 C0.1.2.1 dL_law_428 (by decide) ?_
  refine lv_iadd C0.1.1 C0.1.2.1 dL_law_429 ?_
  refine gs_eq (nI_add i 2) ?_
  refine gl_ld C0 hz (by omega) hL dL_law_430 ?_
  refine gl_bool C0.1.1 C0.1.2.1 dL_law_431 dL_law_434 dL_law_435 dL_law_438 ?_
  refine lv_aload_n C0.1.1 C0.1.2.1 dL_law_439 rfl (lv_at hl 3 rfl) ?_
  refine gh_callS (w := hw G q qo) (wr := yw G qy y) C0.1 (h_losable l hst G q qo r S hS hI (xs (i + 1)) (decide (xs (i + 2) ≠ 0))) (vx_cwSW 4 C0.1.2.2.2.2 gL_law_L_losable rfl rfl rfl (by decide +kernel) ⟨Nat.le_of_ble_eq_true rfl, Nat.le_of_ble_eq_true rfl⟩) hz C0.2.2.2.1 C0.2.2.2.2 rfl hl.1 rfl (Nat.le_of_ble_eq_true rfl) dL_law_440 ⟨hc, hs⟩ (fun k1 u H locs hp1 hz => ?_)
  rw [← et] at hp1
  replace hz := gs_swap hz
  refine lv_istore (lv' := [(5, .int k1), (0, .ref b), (1, .ref (q 0)), (2, .ref (qy 0)), (3, .ref qo), (4, .int (nI i))]) C0.1.1 C0.1.2.1 dL_law_443 hl (by decide) rfl (fun ls hl => ?_)
  refine lv_aload_n C0.1.1 C0.1.2.1 dL_law_445 rfl (lv_at hl 3 rfl) ?_
  refine lv_aload_n C0.1.1 C0.1.2.1 dL_law_446 rfl (lv_at hl 1 rfl) ?_
  refine lv_iload C0.1.1 C0.1.2.1 dL_law_447 (lv_at hl 5 rfl) ?_
  refine lv_iconst (v := nI 1) C0.1.1 C0.1.2.1 dL_law_449 (by decide) ?_
  refine lv_iadd C0.1.1 C0.1.2.1 dL_law_450 ?_
  refine gs_eq (nI_add i 1) ?_
  refine gl_ld C0 hz (by omega) hL dL_law_451 ?_
  refine lv_aload_n C0.1.1 C0.1.2.1 dL_law_452 rfl (lv_at hl 1 rfl) ?_
  refine lv_iload C0.1.1 C0.1.2.1 dL_law_453 (lv_at hl 5 rfl) ?_
  refine lv_iconst (v := nI 2) C0.1.1 C0.1.2.1 dL_law_455 (by decide) ?_
  refine lv_iadd C0.1.1 C0.1.2.1 dL_law_456 ?_
  refine gs_eq (nI_add i 2) ?_
  refine gl_ld C0 hz (by omega) hL dL_law_457 ?_
  refine gl_bool C0.1.1 C0.1.2.1 dL_law_458 dL_law_461 dL_law_462 dL_law_465 ?_
  refine gs_callVi (w := yw G qy) (wr := hw G q qo u) C0.1 (m_losable l G qy y S hY hI (xs (i + 1)) (decide (xs (i + 2) ≠ 0))) (cwV 2 C0.1.2.2.2.2 gL_law_X1_losable rfl rfl rfl (by decide +kernel) ⟨Nat.le_of_ble_eq_true rfl, Nat.le_of_ble_eq_true rfl⟩) (ci := 1) rfl rfl rfl hz rfl hl.1 rfl (Nat.le_of_ble_eq_true rfl) dL_law_466 ⟨hc, hs⟩ (fun k2 y2 H locs hp2 hz => ?_)
  rw [← et] at hp2
  refine lv_istore (lv' := [(6, .int k2), (5, .int k1), (0, .ref b), (1, .ref (q 0)), (2, .ref (qy 0)), (3, .ref qo), (4, .int (nI i))]) C0.1.1 C0.1.2.1 dL_law_469 hl (by decide) rfl (fun ls hl => ?_)
  refine lv_aload_n C0.1.1 C0.1.2.1 dL_law_471 rfl (lv_at hl 4 rfl) ?_
  refine gs_callVi (w := yw G qy) (wr := hw G q qo u) C0.1 (m_thrown l G qy y2) (cwV 0 C0.1.2.2.2.2 gL_law_X1_thrown rfl rfl rfl (by decide +kernel) ⟨Nat.le_of_ble_eq_true rfl, Nat.le_of_ble_eq_true rfl⟩) (ci := 1) rfl rfl rfl hz rfl hl.1 rfl (Nat.le_of_ble_eq_true rfl) dL_law_472 ⟨hc, hs⟩ (fun k3 y3 H locs hp3 hz => ?_)
  rw [hp3.1] at hz
  refine gs_eq (y := y_th y2) hp3.2 ?_
  refine lv_iload C0.1.1 C0.1.2.1 dL_law_475 (lv_at hl 1 rfl) ?_
  refine lv_icmp_eq (tgt := 482) C0.1.1 C0.1.2.1 dL_law_477 (by decide) (fun _ => ?_) (fun c9 => absurd (by rw [hp2.1, hp1.1]) c9)
  refine lv_iload C0.1.1 C0.1.2.1 dL_law_482 (lv_at hl 1 rfl) ?_
  by_cases ht : t.1 = 0
  · skip
    refine lv_if_ne (tgt := 506) C0.1.1 C0.1.2.1 dL_law_484 (by decide) (fun c9 => absurd (by rw [hp1.1, ht]; rfl) c9) (fun _ => ?_)
    refine lv_aload_n C0.1.1 C0.1.2.1 dL_law_487 rfl (lv_at hl 5 rfl) ?_
    refine lv_iconst (v := nI 0) C0.1.1 C0.1.2.1 dL_law_488 (by decide) ?_
    refine va_lald C0.1.1 C0.1.2.1 hz.1 hz.2.1 16 2 (cA := G.2.2.2) (n := 1) (f := u.2) rfl rfl (vp_in_nI (by decide) (by decide)) dL_law_489 ?_
    refine gl_eqL (y := t.2.1.toInt64) (by rw [nI_clamp (by decide)]; exact hp1.2.1 ht) ?_
    refine lv_iload C0.1.1 C0.1.2.1 dL_law_490 (lv_at hl 0 rfl) ?_
    rcases hbl ht with z | z
    · skip
      refine lv_if_eq (tgt := 499) C0.1.1 C0.1.2.1 dL_law_492 (by decide) (fun _ => ?_) (fun c9 => absurd ((hp2.2.1 ht).trans z) c9)
      refine lv_lconst (v := 0) C0.1.1 C0.1.2.1 dL_law_499 rfl ?_
      refine W.lcmp C0.1.1 C0.1.2.1 dL_law_500 ?_
      refine lv_if_eq (tgt := 506) C0.1.1 C0.1.2.1 dL_law_501 (by decide) (fun _ => ?_) (fun c9 => absurd ((lg_cmp_eq _ _).mpr (by rw [z]; rfl)) c9)
      refine lv_goto (tgt := 1069) C0.1.1 C0.1.2.1 dL_law_506 (by decide) ?_
      have hl : lv_has ls 7 [(0, .ref b), (1, .ref (q 0)), (2, .ref (qy 0)), (3, .ref qo), (4, .int (nI i))] := lv_sub hl [2, 3, 4, 5, 6] rfl
      exact kk t.2.2 u y2 _ _ ls hp1.2.2 hp2.2.2 hIt (gs_swap hz) hl
    · skip
      refine lv_if_eq (tgt := 499) C0.1.1 C0.1.2.1 dL_law_492 (by decide) (fun c9 => absurd c9 (by rw [hp2.2.1 ht, z]; decide)) (fun _ => ?_)
      refine lv_lconst (v := 1) C0.1.1 C0.1.2.1 dL_law_495 rfl ?_
      refine lv_goto (tgt := 500) C0.1.1 C0.1.2.1 dL_law_496 (by decide) ?_
      refine W.lcmp C0.1.1 C0.1.2.1 dL_law_500 ?_
      refine lv_if_eq (tgt := 506) C0.1.1 C0.1.2.1 dL_law_501 (by decide) (fun _ => ?_) (fun c9 => absurd ((lg_cmp_eq _ _).mpr (by rw [z]; rfl)) c9)
      refine lv_goto (tgt := 1069) C0.1.1 C0.1.2.1 dL_law_506 (by decide) ?_
      have hl : lv_has ls 7 [(0, .ref b), (1, .ref (q 0)), (2, .ref (qy 0)), (3, .ref qo), (4, .int (nI i))] := lv_sub hl [2, 3, 4, 5, 6] rfl
      exact kk t.2.2 u y2 _ _ ls hp1.2.2 hp2.2.2 hIt (gs_swap hz) hl
  · skip
    have hg1 := hg.1
    refine lv_if_ne (tgt := 506) C0.1.1 C0.1.2.1 dL_law_484 (by decide) (fun _ => ?_) (fun c9 => absurd c9 (by rw [hp1.1, n0_eq (by omega)]; exact ht))
    refine lv_goto (tgt := 1069) C0.1.1 C0.1.2.1 dL_law_506 (by decide) ?_
    have hl : lv_has ls 7 [(0, .ref b), (1, .ref (q 0)), (2, .ref (qy 0)), (3, .ref qo), (4, .int (nI i))] := lv_sub hl [2, 3, 4, 5, 6] rfl
    exact kk t.2.2 u y2 _ _ ls hp1.2.2 hp2.2.2 hIt (gs_swap hz) hl
set_option maxHeartbeats 4000000 in
set_option maxRecDepth 100000 in
/-- lose -/
theorem a_lose {p : Program} {l : Launch} {e : Env} {s : State} {m : MethodId} {below : List Frame} {meth : Method} {c : Code} {b L : Nat} {xs : Nat → Int32} {Q : State → Prop} (hst : l.stackTraces = false) (C0 : la p s m c b L xs) (hL : L ≤ 2048) (G : gs_G) (q qy : Nat → Nat) (qo : Nat) (S : hs_S) (r : xr × (Nat → Int64)) (y : yr) (hS : rx S r.1) (hY : ry S y) (hI : hs_I S) (i : Nat) (hi : i + 3 < L) (cells slots : Nat) (hc : cells + 4 ≤ 601024) (hs : slots + 24 ≤ 7293034) (H : Heap) (locs : List Loc) (ls : Array Slot) (hz : laZ G q qy qo r y s H locs) (hl : laL ls b q qy qo i) (kk : laK p l e s m below meth c b G q qy qo i cells slots Q) : W p l e room_1 s m #[Value.ref b] below meth c H locs cells slots Q (F0 m 509 ls []) := by
  have hl : lv_has ls 7 [(0, .ref b), (1, .ref (q 0)), (2, .ref (qy 0)), (3, .ref qo), (4, .int (nI i))] := hl
  obtain ⟨t, et⟩ : ∃ t, t = sp_lose S (xs (i + 1)) := ⟨_, rfl⟩
  have hg : gd S 2 t := by rw [et]; exact gd_lose
  have hbl : bl t := by rw [et]; exact bl_lose
  have hIt : hs_I t.2.2 := by rw [et]; exact sp_lose_I hI
  refine lv_aload_n C0.1.1 C0.1.2.1 dL_law_509 rfl (lv_at hl 1 rfl) ?_
  refine lv_aload_n C0.1.1 C0.1.2.1 dL_law_510 rfl (lv_at hl 0 rfl) ?_
  refine lv_iload C0.1.1 C0.1.2.1 dL_law_511 (lv_at hl 4 rfl) ?_
  refine lv_iconst (v := nI 1) C0.1.1 C0.1.2.1 dL_law_513 (by decide) ?_
  refine lv_iadd C0.1.1 C0.1.2.1 dL_law_514 ?_
  refine gs_eq (nI_add i 1) ?_
  refine gl_ld C0 hz (by omega) hL dL_law_515 ?_
  refine lv_aload_n C0.1.1 C0.1.2.1 dL_law_516 rfl (lv_at hl 3 rfl) ?_
  refine gh_callS (w := hw G q qo) (wr := yw G qy y) C0.1 (h_lose l hst G q qo r S hS hI (xs (i + 1))) (vx_cwSW 3 C0.1.2.2.2.2 gL_law_L_lose rfl rfl rfl (by decide +kernel) ⟨Nat.le_of_ble_eq_true rfl, Nat.le_of_ble_eq_true rfl⟩) hz C0.2.2.2.1 C0.2.2.2.2 rfl hl.1 rfl (Nat.le_of_ble_eq_true rfl) dL_law_517 ⟨hc, hs⟩ (fun k1 u H locs hp1 hz => ?_)
  rw [← et] at hp1
  replace hz := gs_swap hz
  refine lv_istore (lv' := [(5, .int k1), (0, .ref b), (1, .ref (q 0)), (2, .ref (qy 0)), (3, .ref qo), (4, .int (nI i))]) C0.1.1 C0.1.2.1 dL_law_520 hl (by decide) rfl (fun ls hl => ?_)
  refine lv_aload_n C0.1.1 C0.1.2.1 dL_law_522 rfl (lv_at hl 3 rfl) ?_
  refine lv_aload_n C0.1.1 C0.1.2.1 dL_law_523 rfl (lv_at hl 1 rfl) ?_
  refine lv_iload C0.1.1 C0.1.2.1 dL_law_524 (lv_at hl 5 rfl) ?_
  refine lv_iconst (v := nI 1) C0.1.1 C0.1.2.1 dL_law_526 (by decide) ?_
  refine lv_iadd C0.1.1 C0.1.2.1 dL_law_527 ?_
  refine gs_eq (nI_add i 1) ?_
  refine gl_ld C0 hz (by omega) hL dL_law_528 ?_
  refine gs_callVi (w := yw G qy) (wr := hw G q qo u) C0.1 (m_lose l G qy y S hY hI (xs (i + 1))) (cwV 1 C0.1.2.2.2.2 gL_law_X1_lose rfl rfl rfl (by decide +kernel) ⟨Nat.le_of_ble_eq_true rfl, Nat.le_of_ble_eq_true rfl⟩) (ci := 1) rfl rfl rfl hz rfl hl.1 rfl (Nat.le_of_ble_eq_true rfl) dL_law_529 ⟨hc, hs⟩ (fun k2 y2 H locs hp2 hz => ?_)
  rw [← et] at hp2
  refine lv_istore (lv' := [(6, .int k2), (5, .int k1), (0, .ref b), (1, .ref (q 0)), (2, .ref (qy 0)), (3, .ref qo), (4, .int (nI i))]) C0.1.1 C0.1.2.1 dL_law_532 hl (by decide) rfl (fun ls hl => ?_)
  refine lv_aload_n C0.1.1 C0.1.2.1 dL_law_534 rfl (lv_at hl 4 rfl) ?_
  refine gs_callVi (w := yw G qy) (wr := hw G q qo u) C0.1 (m_thrown l G qy y2) (cwV 0 C0.1.2.2.2.2 gL_law_X1_thrown rfl rfl rfl (by decide +kernel) ⟨Nat.le_of_ble_eq_true rfl, Nat.le_of_ble_eq_true rfl⟩) (ci := 1) rfl rfl rfl hz rfl hl.1 rfl (Nat.le_of_ble_eq_true rfl) dL_law_535 ⟨hc, hs⟩ (fun k3 y3 H locs hp3 hz => ?_)
  rw [hp3.1] at hz
  refine gs_eq (y := y_th y2) hp3.2 ?_
  refine lv_iload C0.1.1 C0.1.2.1 dL_law_538 (lv_at hl 1 rfl) ?_
  refine lv_icmp_eq (tgt := 545) C0.1.1 C0.1.2.1 dL_law_540 (by decide) (fun _ => ?_) (fun c9 => absurd (by rw [hp2.1, hp1.1]) c9)
  refine lv_iload C0.1.1 C0.1.2.1 dL_law_545 (lv_at hl 1 rfl) ?_
  by_cases ht : t.1 = 0
  · skip
    refine lv_if_ne (tgt := 569) C0.1.1 C0.1.2.1 dL_law_547 (by decide) (fun c9 => absurd (by rw [hp1.1, ht]; rfl) c9) (fun _ => ?_)
    refine lv_aload_n C0.1.1 C0.1.2.1 dL_law_550 rfl (lv_at hl 5 rfl) ?_
    refine lv_iconst (v := nI 0) C0.1.1 C0.1.2.1 dL_law_551 (by decide) ?_
    refine va_lald C0.1.1 C0.1.2.1 hz.1 hz.2.1 16 2 (cA := G.2.2.2) (n := 1) (f := u.2) rfl rfl (vp_in_nI (by decide) (by decide)) dL_law_552 ?_
    refine gl_eqL (y := t.2.1.toInt64) (by rw [nI_clamp (by decide)]; exact hp1.2.1 ht) ?_
    refine lv_iload C0.1.1 C0.1.2.1 dL_law_553 (lv_at hl 0 rfl) ?_
    rcases hbl ht with z | z
    · skip
      refine lv_if_eq (tgt := 562) C0.1.1 C0.1.2.1 dL_law_555 (by decide) (fun _ => ?_) (fun c9 => absurd ((hp2.2.1 ht).trans z) c9)
      refine lv_lconst (v := 0) C0.1.1 C0.1.2.1 dL_law_562 rfl ?_
      refine W.lcmp C0.1.1 C0.1.2.1 dL_law_563 ?_
      refine lv_if_eq (tgt := 569) C0.1.1 C0.1.2.1 dL_law_564 (by decide) (fun _ => ?_) (fun c9 => absurd ((lg_cmp_eq _ _).mpr (by rw [z]; rfl)) c9)
      refine lv_goto (tgt := 1069) C0.1.1 C0.1.2.1 dL_law_569 (by decide) ?_
      have hl : lv_has ls 7 [(0, .ref b), (1, .ref (q 0)), (2, .ref (qy 0)), (3, .ref qo), (4, .int (nI i))] := lv_sub hl [2, 3, 4, 5, 6] rfl
      exact kk t.2.2 u y2 _ _ ls hp1.2.2 hp2.2.2 hIt (gs_swap hz) hl
    · skip
      refine lv_if_eq (tgt := 562) C0.1.1 C0.1.2.1 dL_law_555 (by decide) (fun c9 => absurd c9 (by rw [hp2.2.1 ht, z]; decide)) (fun _ => ?_)
      refine lv_lconst (v := 1) C0.1.1 C0.1.2.1 dL_law_558 rfl ?_
      refine lv_goto (tgt := 563) C0.1.1 C0.1.2.1 dL_law_559 (by decide) ?_
      refine W.lcmp C0.1.1 C0.1.2.1 dL_law_563 ?_
      refine lv_if_eq (tgt := 569) C0.1.1 C0.1.2.1 dL_law_564 (by decide) (fun _ => ?_) (fun c9 => absurd ((lg_cmp_eq _ _).mpr (by rw [z]; rfl)) c9)
      refine lv_goto (tgt := 1069) C0.1.1 C0.1.2.1 dL_law_569 (by decide) ?_
      have hl : lv_has ls 7 [(0, .ref b), (1, .ref (q 0)), (2, .ref (qy 0)), (3, .ref qo), (4, .int (nI i))] := lv_sub hl [2, 3, 4, 5, 6] rfl
      exact kk t.2.2 u y2 _ _ ls hp1.2.2 hp2.2.2 hIt (gs_swap hz) hl
  · skip
    have hg1 := hg.1
    refine lv_if_ne (tgt := 569) C0.1.1 C0.1.2.1 dL_law_547 (by decide) (fun _ => ?_) (fun c9 => absurd c9 (by rw [hp1.1, n0_eq (by omega)]; exact ht))
    refine lv_goto (tgt := 1069) C0.1.1 C0.1.2.1 dL_law_569 (by decide) ?_
    have hl : lv_has ls 7 [(0, .ref b), (1, .ref (q 0)), (2, .ref (qy 0)), (3, .ref qo), (4, .int (nI i))] := lv_sub hl [2, 3, 4, 5, 6] rfl
    exact kk t.2.2 u y2 _ _ ls hp1.2.2 hp2.2.2 hIt (gs_swap hz) hl
set_option maxHeartbeats 4000000 in
set_option maxRecDepth 100000 in
/-- lift -/
theorem a_lift {p : Program} {l : Launch} {e : Env} {s : State} {m : MethodId} {below : List Frame} {meth : Method} {c : Code} {b L : Nat} {xs : Nat → Int32} {Q : State → Prop} (hst : l.stackTraces = false) (C0 : la p s m c b L xs) (hL : L ≤ 2048) (G : gs_G) (q qy : Nat → Nat) (qo : Nat) (S : hs_S) (r : xr × (Nat → Int64)) (y : yr) (hS : rx S r.1) (hY : ry S y) (hI : hs_I S) (i : Nat) (hi : i + 3 < L) (cells slots : Nat) (hc : cells + 4 ≤ 601024) (hs : slots + 24 ≤ 7293034) (H : Heap) (locs : List Loc) (ls : Array Slot) (hz : laZ G q qy qo r y s H locs) (hl : laL ls b q qy qo i) (kk : laK p l e s m below meth c b G q qy qo i cells slots Q) : W p l e room_1 s m #[Value.ref b] below meth c H locs cells slots Q (F0 m 572 ls []) := by
  have hl : lv_has ls 7 [(0, .ref b), (1, .ref (q 0)), (2, .ref (qy 0)), (3, .ref qo), (4, .int (nI i))] := hl
  obtain ⟨t, et⟩ : ∃ t, t = sp_lift S (xs (i + 1)) := ⟨_, rfl⟩
  have hg : gd S 2 t := by rw [et]; exact gd_lift
  have hIt : hs_I t.2.2 := by rw [et]; exact sp_lift_I hI
  refine lv_aload_n C0.1.1 C0.1.2.1 dL_law_572 rfl (lv_at hl 1 rfl) ?_
  refine lv_aload_n C0.1.1 C0.1.2.1 dL_law_573 rfl (lv_at hl 0 rfl) ?_
  refine lv_iload C0.1.1 C0.1.2.1 dL_law_574 (lv_at hl 4 rfl) ?_
  refine lv_iconst (v := nI 1) C0.1.1 C0.1.2.1 dL_law_576 (by decide) ?_
  refine lv_iadd C0.1.1 C0.1.2.1 dL_law_577 ?_
  refine gs_eq (nI_add i 1) ?_
  refine gl_ld C0 hz (by omega) hL dL_law_578 ?_
  refine lv_aload_n C0.1.1 C0.1.2.1 dL_law_579 rfl (lv_at hl 3 rfl) ?_
  refine gh_callS (w := hw G q qo) (wr := yw G qy y) C0.1 (h_lift l hst G q qo r S hS hI (xs (i + 1))) (vx_cwSW 3 C0.1.2.2.2.2 gL_law_L_lift rfl rfl rfl (by decide +kernel) ⟨Nat.le_of_ble_eq_true rfl, Nat.le_of_ble_eq_true rfl⟩) hz C0.2.2.2.1 C0.2.2.2.2 rfl hl.1 rfl (Nat.le_of_ble_eq_true rfl) dL_law_580 ⟨hc, hs⟩ (fun k1 u H locs hp1 hz => ?_)
  rw [← et] at hp1
  replace hz := gs_swap hz
  refine lv_istore (lv' := [(5, .int k1), (0, .ref b), (1, .ref (q 0)), (2, .ref (qy 0)), (3, .ref qo), (4, .int (nI i))]) C0.1.1 C0.1.2.1 dL_law_583 hl (by decide) rfl (fun ls hl => ?_)
  refine lv_aload_n C0.1.1 C0.1.2.1 dL_law_585 rfl (lv_at hl 3 rfl) ?_
  refine lv_aload_n C0.1.1 C0.1.2.1 dL_law_586 rfl (lv_at hl 1 rfl) ?_
  refine lv_iload C0.1.1 C0.1.2.1 dL_law_587 (lv_at hl 5 rfl) ?_
  refine lv_iconst (v := nI 1) C0.1.1 C0.1.2.1 dL_law_589 (by decide) ?_
  refine lv_iadd C0.1.1 C0.1.2.1 dL_law_590 ?_
  refine gs_eq (nI_add i 1) ?_
  refine gl_ld C0 hz (by omega) hL dL_law_591 ?_
  refine gs_callVi (w := yw G qy) (wr := hw G q qo u) C0.1 (m_lift l G qy y S hY hI (xs (i + 1))) (cwV 1 C0.1.2.2.2.2 gL_law_X1_lift rfl rfl rfl (by decide +kernel) ⟨Nat.le_of_ble_eq_true rfl, Nat.le_of_ble_eq_true rfl⟩) (ci := 1) rfl rfl rfl hz rfl hl.1 rfl (Nat.le_of_ble_eq_true rfl) dL_law_592 ⟨hc, hs⟩ (fun k2 y2 H locs hp2 hz => ?_)
  rw [← et] at hp2
  refine lv_istore (lv' := [(6, .int k2), (5, .int k1), (0, .ref b), (1, .ref (q 0)), (2, .ref (qy 0)), (3, .ref qo), (4, .int (nI i))]) C0.1.1 C0.1.2.1 dL_law_595 hl (by decide) rfl (fun ls hl => ?_)
  refine lv_aload_n C0.1.1 C0.1.2.1 dL_law_597 rfl (lv_at hl 4 rfl) ?_
  refine gs_callVi (w := yw G qy) (wr := hw G q qo u) C0.1 (m_thrown l G qy y2) (cwV 0 C0.1.2.2.2.2 gL_law_X1_thrown rfl rfl rfl (by decide +kernel) ⟨Nat.le_of_ble_eq_true rfl, Nat.le_of_ble_eq_true rfl⟩) (ci := 1) rfl rfl rfl hz rfl hl.1 rfl (Nat.le_of_ble_eq_true rfl) dL_law_598 ⟨hc, hs⟩ (fun k3 y3 H locs hp3 hz => ?_)
  rw [hp3.1] at hz
  refine gs_eq (y := y_th y2) hp3.2 ?_
  refine lv_iload C0.1.1 C0.1.2.1 dL_law_601 (lv_at hl 1 rfl) ?_
  refine lv_icmp_eq (tgt := 608) C0.1.1 C0.1.2.1 dL_law_603 (by decide) (fun _ => ?_) (fun c9 => absurd (by rw [hp2.1, hp1.1]) c9)
  refine lv_iload C0.1.1 C0.1.2.1 dL_law_608 (lv_at hl 1 rfl) ?_
  by_cases ht : t.1 = 0
  · skip
    refine lv_if_ne (tgt := 625) C0.1.1 C0.1.2.1 dL_law_610 (by decide) (fun c9 => absurd (by rw [hp1.1, ht]; rfl) c9) (fun _ => ?_)
    refine lv_aload_n C0.1.1 C0.1.2.1 dL_law_613 rfl (lv_at hl 5 rfl) ?_
    refine lv_iconst (v := nI 0) C0.1.1 C0.1.2.1 dL_law_614 (by decide) ?_
    refine va_lald C0.1.1 C0.1.2.1 hz.1 hz.2.1 16 2 (cA := G.2.2.2) (n := 1) (f := u.2) rfl rfl (vp_in_nI (by decide) (by decide)) dL_law_615 ?_
    refine gl_eqL (y := t.2.1.toInt64) (by rw [nI_clamp (by decide)]; exact hp1.2.1 ht) ?_
    refine lv_iload C0.1.1 C0.1.2.1 dL_law_616 (lv_at hl 0 rfl) ?_
    refine lv_i2l (v := t.2.1.toInt64) C0.1.1 C0.1.2.1 dL_law_618 (by rw [hp2.2.1 ht]) ?_
    refine W.lcmp C0.1.1 C0.1.2.1 dL_law_619 ?_
    refine lv_if_eq (tgt := 625) C0.1.1 C0.1.2.1 dL_law_620 (by decide) (fun _ => ?_) (fun c9 => absurd ((lg_cmp_eq _ _).mpr rfl) c9)
    refine lv_goto (tgt := 1069) C0.1.1 C0.1.2.1 dL_law_625 (by decide) ?_
    have hl : lv_has ls 7 [(0, .ref b), (1, .ref (q 0)), (2, .ref (qy 0)), (3, .ref qo), (4, .int (nI i))] := lv_sub hl [2, 3, 4, 5, 6] rfl
    exact kk t.2.2 u y2 _ _ ls hp1.2.2 hp2.2.2 hIt (gs_swap hz) hl
  · skip
    have hg1 := hg.1
    refine lv_if_ne (tgt := 625) C0.1.1 C0.1.2.1 dL_law_610 (by decide) (fun _ => ?_) (fun c9 => absurd c9 (by rw [hp1.1, n0_eq (by omega)]; exact ht))
    refine lv_goto (tgt := 1069) C0.1.1 C0.1.2.1 dL_law_625 (by decide) ?_
    have hl : lv_has ls 7 [(0, .ref b), (1, .ref (q 0)), (2, .ref (qy 0)), (3, .ref qo), (4, .int (nI i))] := lv_sub hl [2, 3, 4, 5, 6] rfl
    exact kk t.2.2 u y2 _ _ ls hp1.2.2 hp2.2.2 hIt (gs_swap hz) hl
set_option maxHeartbeats 4000000 in
set_option maxRecDepth 100000 in
/-- clear -/
theorem a_clear {p : Program} {l : Launch} {e : Env} {s : State} {m : MethodId} {below : List Frame} {meth : Method} {c : Code} {b L : Nat} {xs : Nat → Int32} {Q : State → Prop} (hst : l.stackTraces = false) (C0 : la p s m c b L xs) (hL : L ≤ 2048) (G : gs_G) (q qy : Nat → Nat) (qo : Nat) (S : hs_S) (r : xr × (Nat → Int64)) (y : yr) (hS : rx S r.1) (hY : ry S y) (hI : hs_I S) (i : Nat) (hi : i + 3 < L) (cells slots : Nat) (hc : cells + 4 ≤ 601024) (hs : slots + 24 ≤ 7293034) (H : Heap) (locs : List Loc) (ls : Array Slot) (hz : laZ G q qy qo r y s H locs) (hl : laL ls b q qy qo i) (kk : laK p l e s m below meth c b G q qy qo i cells slots Q) : W p l e room_1 s m #[Value.ref b] below meth c H locs cells slots Q (F0 m 641 ls []) := by
  have hl : lv_has ls 7 [(0, .ref b), (1, .ref (q 0)), (2, .ref (qy 0)), (3, .ref qo), (4, .int (nI i))] := hl
  obtain ⟨t, et⟩ : ∃ t, t = sp_clear S (xs (i + 1)) := ⟨_, rfl⟩
  have hg : gd S 1 t := by rw [et]; exact gd_clear
  have hIt : hs_I t.2.2 := by rw [et]; exact sp_clear_I hI
  refine lv_aload_n C0.1.1 C0.1.2.1 dL_law_641 rfl (lv_at hl 1 rfl) ?_
  refine lv_aload_n C0.1.1 C0.1.2.1 dL_law_642 rfl (lv_at hl 0 rfl) ?_
  refine lv_iload C0.1.1 C0.1.2.1 dL_law_643 (lv_at hl 4 rfl) ?_
  refine lv_iconst (v := nI 1) C0.1.1 C0.1.2.1 dL_law_645 (by decide) ?_
  refine lv_iadd C0.1.1 C0.1.2.1 dL_law_646 ?_
  refine gs_eq (nI_add i 1) ?_
  refine gl_ld C0 hz (by omega) hL dL_law_647 ?_
  refine lv_aload_n C0.1.1 C0.1.2.1 dL_law_648 rfl (lv_at hl 3 rfl) ?_
  refine gh_callS (w := hw G q qo) (wr := yw G qy y) C0.1 (h_clear l hst G q qo r S hS hI (xs (i + 1))) (vx_cwSW 3 C0.1.2.2.2.2 gL_law_L_clear rfl rfl rfl (by decide +kernel) ⟨Nat.le_of_ble_eq_true rfl, Nat.le_of_ble_eq_true rfl⟩) hz C0.2.2.2.1 C0.2.2.2.2 rfl hl.1 rfl (Nat.le_of_ble_eq_true rfl) dL_law_649 ⟨hc, hs⟩ (fun k1 u H locs hp1 hz => ?_)
  rw [← et] at hp1
  replace hz := gs_swap hz
  refine lv_istore (lv' := [(5, .int k1), (0, .ref b), (1, .ref (q 0)), (2, .ref (qy 0)), (3, .ref qo), (4, .int (nI i))]) C0.1.1 C0.1.2.1 dL_law_652 hl (by decide) rfl (fun ls hl => ?_)
  refine lv_aload_n C0.1.1 C0.1.2.1 dL_law_654 rfl (lv_at hl 3 rfl) ?_
  refine lv_aload_n C0.1.1 C0.1.2.1 dL_law_655 rfl (lv_at hl 1 rfl) ?_
  refine lv_iload C0.1.1 C0.1.2.1 dL_law_656 (lv_at hl 5 rfl) ?_
  refine lv_iconst (v := nI 1) C0.1.1 C0.1.2.1 dL_law_658 (by decide) ?_
  refine lv_iadd C0.1.1 C0.1.2.1 dL_law_659 ?_
  refine gs_eq (nI_add i 1) ?_
  refine gl_ld C0 hz (by omega) hL dL_law_660 ?_
  refine gs_callVi (w := yw G qy) (wr := hw G q qo u) C0.1 (m_clear l G qy y S hY hI (xs (i + 1))) (cwV 1 C0.1.2.2.2.2 gL_law_X1_clear rfl rfl rfl (by decide +kernel) ⟨Nat.le_of_ble_eq_true rfl, Nat.le_of_ble_eq_true rfl⟩) (ci := 1) rfl rfl rfl hz rfl hl.1 rfl (Nat.le_of_ble_eq_true rfl) dL_law_661 ⟨hc, hs⟩ (fun k2 y2 H locs hp2 hz => ?_)
  rw [← et] at hp2
  refine lv_istore (lv' := [(6, .int k2), (5, .int k1), (0, .ref b), (1, .ref (q 0)), (2, .ref (qy 0)), (3, .ref qo), (4, .int (nI i))]) C0.1.1 C0.1.2.1 dL_law_664 hl (by decide) rfl (fun ls hl => ?_)
  refine lv_aload_n C0.1.1 C0.1.2.1 dL_law_666 rfl (lv_at hl 4 rfl) ?_
  refine gs_callVi (w := yw G qy) (wr := hw G q qo u) C0.1 (m_thrown l G qy y2) (cwV 0 C0.1.2.2.2.2 gL_law_X1_thrown rfl rfl rfl (by decide +kernel) ⟨Nat.le_of_ble_eq_true rfl, Nat.le_of_ble_eq_true rfl⟩) (ci := 1) rfl rfl rfl hz rfl hl.1 rfl (Nat.le_of_ble_eq_true rfl) dL_law_667 ⟨hc, hs⟩ (fun k3 y3 H locs hp3 hz => ?_)
  rw [hp3.1] at hz
  refine gs_eq (y := y_th y2) hp3.2 ?_
  refine lv_iload C0.1.1 C0.1.2.1 dL_law_670 (lv_at hl 1 rfl) ?_
  refine lv_icmp_eq (tgt := 677) C0.1.1 C0.1.2.1 dL_law_672 (by decide) (fun _ => ?_) (fun c9 => absurd (by rw [hp2.1, hp1.1]) c9)
  refine lv_iload C0.1.1 C0.1.2.1 dL_law_677 (lv_at hl 1 rfl) ?_
  by_cases ht : t.1 = 0
  · skip
    refine lv_if_ne (tgt := 694) C0.1.1 C0.1.2.1 dL_law_679 (by decide) (fun c9 => absurd (by rw [hp1.1, ht]; rfl) c9) (fun _ => ?_)
    refine lv_aload_n C0.1.1 C0.1.2.1 dL_law_682 rfl (lv_at hl 5 rfl) ?_
    refine lv_iconst (v := nI 0) C0.1.1 C0.1.2.1 dL_law_683 (by decide) ?_
    refine va_lald C0.1.1 C0.1.2.1 hz.1 hz.2.1 16 2 (cA := G.2.2.2) (n := 1) (f := u.2) rfl rfl (vp_in_nI (by decide) (by decide)) dL_law_684 ?_
    refine gl_eqL (y := t.2.1.toInt64) (by rw [nI_clamp (by decide)]; exact hp1.2.1 ht) ?_
    refine lv_iload C0.1.1 C0.1.2.1 dL_law_685 (lv_at hl 0 rfl) ?_
    refine lv_i2l (v := t.2.1.toInt64) C0.1.1 C0.1.2.1 dL_law_687 (by rw [hp2.2.1 ht]) ?_
    refine W.lcmp C0.1.1 C0.1.2.1 dL_law_688 ?_
    refine lv_if_eq (tgt := 694) C0.1.1 C0.1.2.1 dL_law_689 (by decide) (fun _ => ?_) (fun c9 => absurd ((lg_cmp_eq _ _).mpr rfl) c9)
    refine lv_goto (tgt := 1069) C0.1.1 C0.1.2.1 dL_law_694 (by decide) ?_
    have hl : lv_has ls 7 [(0, .ref b), (1, .ref (q 0)), (2, .ref (qy 0)), (3, .ref qo), (4, .int (nI i))] := lv_sub hl [2, 3, 4, 5, 6] rfl
    exact kk t.2.2 u y2 _ _ ls hp1.2.2 hp2.2.2 hIt (gs_swap hz) hl
  · skip
    have hg1 := hg.1
    refine lv_if_ne (tgt := 694) C0.1.1 C0.1.2.1 dL_law_679 (by decide) (fun _ => ?_) (fun c9 => absurd c9 (by rw [hp1.1, n0_eq (by omega)]; exact ht))
    refine lv_goto (tgt := 1069) C0.1.1 C0.1.2.1 dL_law_694 (by decide) ?_
    have hl : lv_has ls 7 [(0, .ref b), (1, .ref (q 0)), (2, .ref (qy 0)), (3, .ref qo), (4, .int (nI i))] := lv_sub hl [2, 3, 4, 5, 6] rfl
    exact kk t.2.2 u y2 _ _ ls hp1.2.2 hp2.2.2 hIt (gs_swap hz) hl
set_option maxHeartbeats 4000000 in
set_option maxRecDepth 100000 in
/-- where -/
theorem a_where {p : Program} {l : Launch} {e : Env} {s : State} {m : MethodId} {below : List Frame} {meth : Method} {c : Code} {b L : Nat} {xs : Nat → Int32} {Q : State → Prop} (hst : l.stackTraces = false) (C0 : la p s m c b L xs) (hL : L ≤ 2048) (G : gs_G) (q qy : Nat → Nat) (qo : Nat) (S : hs_S) (r : xr × (Nat → Int64)) (y : yr) (hS : rx S r.1) (hY : ry S y) (hI : hs_I S) (i : Nat) (hi : i + 3 < L) (cells slots : Nat) (hc : cells + 4 ≤ 601024) (hs : slots + 24 ≤ 7293034) (H : Heap) (locs : List Loc) (ls : Array Slot) (hz : laZ G q qy qo r y s H locs) (hl : laL ls b q qy qo i) (kk : laK p l e s m below meth c b G q qy qo i cells slots Q) : W p l e room_1 s m #[Value.ref b] below meth c H locs cells slots Q (F0 m 697 ls []) := by
  have hl : lv_has ls 7 [(0, .ref b), (1, .ref (q 0)), (2, .ref (qy 0)), (3, .ref qo), (4, .int (nI i))] := hl
  obtain ⟨t, et⟩ : ∃ t, t = sp_where S (xs (i + 1)) := ⟨_, rfl⟩
  have hg : gd S 1 t := by rw [et]; exact gd_where
  have hIt : hs_I t.2.2 := by rw [et]; exact sp_where_I hI
  refine lv_aload_n C0.1.1 C0.1.2.1 dL_law_697 rfl (lv_at hl 1 rfl) ?_
  refine lv_aload_n C0.1.1 C0.1.2.1 dL_law_698 rfl (lv_at hl 0 rfl) ?_
  refine lv_iload C0.1.1 C0.1.2.1 dL_law_699 (lv_at hl 4 rfl) ?_
  refine lv_iconst (v := nI 1) C0.1.1 C0.1.2.1 dL_law_701 (by decide) ?_
  refine lv_iadd C0.1.1 C0.1.2.1 dL_law_702 ?_
  refine gs_eq (nI_add i 1) ?_
  refine gl_ld C0 hz (by omega) hL dL_law_703 ?_
  refine lv_aload_n C0.1.1 C0.1.2.1 dL_law_704 rfl (lv_at hl 3 rfl) ?_
  refine gh_callS (w := hw G q qo) (wr := yw G qy y) C0.1 (h_where l hst G q qo r S hS hI (xs (i + 1))) (vx_cwSW 3 C0.1.2.2.2.2 gL_law_L_where rfl rfl rfl (by decide +kernel) ⟨Nat.le_of_ble_eq_true rfl, Nat.le_of_ble_eq_true rfl⟩) hz C0.2.2.2.1 C0.2.2.2.2 rfl hl.1 rfl (Nat.le_of_ble_eq_true rfl) dL_law_705 ⟨hc, hs⟩ (fun k1 u H locs hp1 hz => ?_)
  rw [← et] at hp1
  replace hz := gs_swap hz
  refine lv_istore (lv' := [(5, .int k1), (0, .ref b), (1, .ref (q 0)), (2, .ref (qy 0)), (3, .ref qo), (4, .int (nI i))]) C0.1.1 C0.1.2.1 dL_law_708 hl (by decide) rfl (fun ls hl => ?_)
  refine lv_aload_n C0.1.1 C0.1.2.1 dL_law_710 rfl (lv_at hl 3 rfl) ?_
  refine lv_aload_n C0.1.1 C0.1.2.1 dL_law_711 rfl (lv_at hl 1 rfl) ?_
  refine lv_iload C0.1.1 C0.1.2.1 dL_law_712 (lv_at hl 5 rfl) ?_
  refine lv_iconst (v := nI 1) C0.1.1 C0.1.2.1 dL_law_714 (by decide) ?_
  refine lv_iadd C0.1.1 C0.1.2.1 dL_law_715 ?_
  refine gs_eq (nI_add i 1) ?_
  refine gl_ld C0 hz (by omega) hL dL_law_716 ?_
  refine gs_callVi (w := yw G qy) (wr := hw G q qo u) C0.1 (m_where l G qy y S hY hI (xs (i + 1))) (cwV 1 C0.1.2.2.2.2 gL_law_X1_where rfl rfl rfl (by decide +kernel) ⟨Nat.le_of_ble_eq_true rfl, Nat.le_of_ble_eq_true rfl⟩) (ci := 1) rfl rfl rfl hz rfl hl.1 rfl (Nat.le_of_ble_eq_true rfl) dL_law_717 ⟨hc, hs⟩ (fun k2 y2 H locs hp2 hz => ?_)
  rw [← et] at hp2
  refine lv_istore (lv' := [(6, .int k2), (5, .int k1), (0, .ref b), (1, .ref (q 0)), (2, .ref (qy 0)), (3, .ref qo), (4, .int (nI i))]) C0.1.1 C0.1.2.1 dL_law_720 hl (by decide) rfl (fun ls hl => ?_)
  refine lv_aload_n C0.1.1 C0.1.2.1 dL_law_722 rfl (lv_at hl 4 rfl) ?_
  refine gs_callVi (w := yw G qy) (wr := hw G q qo u) C0.1 (m_thrown l G qy y2) (cwV 0 C0.1.2.2.2.2 gL_law_X1_thrown rfl rfl rfl (by decide +kernel) ⟨Nat.le_of_ble_eq_true rfl, Nat.le_of_ble_eq_true rfl⟩) (ci := 1) rfl rfl rfl hz rfl hl.1 rfl (Nat.le_of_ble_eq_true rfl) dL_law_723 ⟨hc, hs⟩ (fun k3 y3 H locs hp3 hz => ?_)
  rw [hp3.1] at hz
  refine gs_eq (y := y_th y2) hp3.2 ?_
  refine lv_iload C0.1.1 C0.1.2.1 dL_law_726 (lv_at hl 1 rfl) ?_
  refine lv_icmp_eq (tgt := 733) C0.1.1 C0.1.2.1 dL_law_728 (by decide) (fun _ => ?_) (fun c9 => absurd (by rw [hp2.1, hp1.1]) c9)
  refine lv_iload C0.1.1 C0.1.2.1 dL_law_733 (lv_at hl 1 rfl) ?_
  by_cases ht : t.1 = 0
  · skip
    refine lv_if_ne (tgt := 750) C0.1.1 C0.1.2.1 dL_law_735 (by decide) (fun c9 => absurd (by rw [hp1.1, ht]; rfl) c9) (fun _ => ?_)
    refine lv_aload_n C0.1.1 C0.1.2.1 dL_law_738 rfl (lv_at hl 5 rfl) ?_
    refine lv_iconst (v := nI 0) C0.1.1 C0.1.2.1 dL_law_739 (by decide) ?_
    refine va_lald C0.1.1 C0.1.2.1 hz.1 hz.2.1 16 2 (cA := G.2.2.2) (n := 1) (f := u.2) rfl rfl (vp_in_nI (by decide) (by decide)) dL_law_740 ?_
    refine gl_eqL (y := t.2.1.toInt64) (by rw [nI_clamp (by decide)]; exact hp1.2.1 ht) ?_
    refine lv_iload C0.1.1 C0.1.2.1 dL_law_741 (lv_at hl 0 rfl) ?_
    refine lv_i2l (v := t.2.1.toInt64) C0.1.1 C0.1.2.1 dL_law_743 (by rw [hp2.2.1 ht]) ?_
    refine W.lcmp C0.1.1 C0.1.2.1 dL_law_744 ?_
    refine lv_if_eq (tgt := 750) C0.1.1 C0.1.2.1 dL_law_745 (by decide) (fun _ => ?_) (fun c9 => absurd ((lg_cmp_eq _ _).mpr rfl) c9)
    refine lv_goto (tgt := 1069) C0.1.1 C0.1.2.1 dL_law_750 (by decide) ?_
    have hl : lv_has ls 7 [(0, .ref b), (1, .ref (q 0)), (2, .ref (qy 0)), (3, .ref qo), (4, .int (nI i))] := lv_sub hl [2, 3, 4, 5, 6] rfl
    exact kk t.2.2 u y2 _ _ ls hp1.2.2 hp2.2.2 hIt (gs_swap hz) hl
  · skip
    have hg1 := hg.1
    refine lv_if_ne (tgt := 750) C0.1.1 C0.1.2.1 dL_law_735 (by decide) (fun _ => ?_) (fun c9 => absurd c9 (by rw [hp1.1, n0_eq (by omega)]; exact ht))
    refine lv_goto (tgt := 1069) C0.1.1 C0.1.2.1 dL_law_750 (by decide) ?_
    have hl : lv_has ls 7 [(0, .ref b), (1, .ref (q 0)), (2, .ref (qy 0)), (3, .ref qo), (4, .int (nI i))] := lv_sub hl [2, 3, 4, 5, 6] rfl
    exact kk t.2.2 u y2 _ _ ls hp1.2.2 hp2.2.2 hIt (gs_swap hz) hl
set_option maxHeartbeats 4000000 in
set_option maxRecDepth 100000 in
/-- size -/
theorem a_size {p : Program} {l : Launch} {e : Env} {s : State} {m : MethodId} {below : List Frame} {meth : Method} {c : Code} {b L : Nat} {xs : Nat → Int32} {Q : State → Prop} (hst : l.stackTraces = false) (C0 : la p s m c b L xs) (hL : L ≤ 2048) (G : gs_G) (q qy : Nat → Nat) (qo : Nat) (S : hs_S) (r : xr × (Nat → Int64)) (y : yr) (hS : rx S r.1) (hY : ry S y) (hI : hs_I S) (i : Nat) (hi : i + 3 < L) (cells slots : Nat) (hc : cells + 4 ≤ 601024) (hs : slots + 24 ≤ 7293034) (H : Heap) (locs : List Loc) (ls : Array Slot) (hz : laZ G q qy qo r y s H locs) (hl : laL ls b q qy qo i) (kk : laK p l e s m below meth c b G q qy qo i cells slots Q) : W p l e room_1 s m #[Value.ref b] below meth c H locs cells slots Q (F0 m 753 ls []) := by
  have hl : lv_has ls 7 [(0, .ref b), (1, .ref (q 0)), (2, .ref (qy 0)), (3, .ref qo), (4, .int (nI i))] := hl
  obtain ⟨t, et⟩ : ∃ t, t = sp_size S (xs (i + 1)) := ⟨_, rfl⟩
  have hg : gd S 1 t := by rw [et]; exact gd_size
  have hIt : hs_I t.2.2 := by rw [et]; exact sp_size_I hI
  refine lv_aload_n C0.1.1 C0.1.2.1 dL_law_753 rfl (lv_at hl 1 rfl) ?_
  refine lv_aload_n C0.1.1 C0.1.2.1 dL_law_754 rfl (lv_at hl 0 rfl) ?_
  refine lv_iload C0.1.1 C0.1.2.1 dL_law_755 (lv_at hl 4 rfl) ?_
  refine lv_iconst (v := nI 1) C0.1.1 C0.1.2.1 dL_law_757 (by decide) ?_
  refine lv_iadd C0.1.1 C0.1.2.1 dL_law_758 ?_
  refine gs_eq (nI_add i 1) ?_
  refine gl_ld C0 hz (by omega) hL dL_law_759 ?_
  refine lv_aload_n C0.1.1 C0.1.2.1 dL_law_760 rfl (lv_at hl 3 rfl) ?_
  refine gh_callS (w := hw G q qo) (wr := yw G qy y) C0.1 (h_size l hst G q qo r S hS hI (xs (i + 1))) (vx_cwSW 3 C0.1.2.2.2.2 gL_law_L_size rfl rfl rfl (by decide +kernel) ⟨Nat.le_of_ble_eq_true rfl, Nat.le_of_ble_eq_true rfl⟩) hz C0.2.2.2.1 C0.2.2.2.2 rfl hl.1 rfl (Nat.le_of_ble_eq_true rfl) dL_law_761 ⟨hc, hs⟩ (fun k1 u H locs hp1 hz => ?_)
  rw [← et] at hp1
  replace hz := gs_swap hz
  refine lv_istore (lv' := [(5, .int k1), (0, .ref b), (1, .ref (q 0)), (2, .ref (qy 0)), (3, .ref qo), (4, .int (nI i))]) C0.1.1 C0.1.2.1 dL_law_764 hl (by decide) rfl (fun ls hl => ?_)
  refine lv_aload_n C0.1.1 C0.1.2.1 dL_law_766 rfl (lv_at hl 3 rfl) ?_
  refine lv_aload_n C0.1.1 C0.1.2.1 dL_law_767 rfl (lv_at hl 1 rfl) ?_
  refine lv_iload C0.1.1 C0.1.2.1 dL_law_768 (lv_at hl 5 rfl) ?_
  refine lv_iconst (v := nI 1) C0.1.1 C0.1.2.1 dL_law_770 (by decide) ?_
  refine lv_iadd C0.1.1 C0.1.2.1 dL_law_771 ?_
  refine gs_eq (nI_add i 1) ?_
  refine gl_ld C0 hz (by omega) hL dL_law_772 ?_
  refine gs_callVi (w := yw G qy) (wr := hw G q qo u) C0.1 (m_size l G qy y S hY (xs (i + 1))) (cwV 1 C0.1.2.2.2.2 gL_law_X1_size rfl rfl rfl (by decide +kernel) ⟨Nat.le_of_ble_eq_true rfl, Nat.le_of_ble_eq_true rfl⟩) (ci := 1) rfl rfl rfl hz rfl hl.1 rfl (Nat.le_of_ble_eq_true rfl) dL_law_773 ⟨hc, hs⟩ (fun k2 y2 H locs hp2 hz => ?_)
  rw [← et] at hp2
  refine lv_istore (lv' := [(6, .int k2), (5, .int k1), (0, .ref b), (1, .ref (q 0)), (2, .ref (qy 0)), (3, .ref qo), (4, .int (nI i))]) C0.1.1 C0.1.2.1 dL_law_776 hl (by decide) rfl (fun ls hl => ?_)
  refine lv_aload_n C0.1.1 C0.1.2.1 dL_law_778 rfl (lv_at hl 4 rfl) ?_
  refine gs_callVi (w := yw G qy) (wr := hw G q qo u) C0.1 (m_thrown l G qy y2) (cwV 0 C0.1.2.2.2.2 gL_law_X1_thrown rfl rfl rfl (by decide +kernel) ⟨Nat.le_of_ble_eq_true rfl, Nat.le_of_ble_eq_true rfl⟩) (ci := 1) rfl rfl rfl hz rfl hl.1 rfl (Nat.le_of_ble_eq_true rfl) dL_law_779 ⟨hc, hs⟩ (fun k3 y3 H locs hp3 hz => ?_)
  rw [hp3.1] at hz
  refine gs_eq (y := y_th y2) hp3.2 ?_
  refine lv_iload C0.1.1 C0.1.2.1 dL_law_782 (lv_at hl 1 rfl) ?_
  refine lv_icmp_eq (tgt := 789) C0.1.1 C0.1.2.1 dL_law_784 (by decide) (fun _ => ?_) (fun c9 => absurd (by rw [hp2.1, hp1.1]) c9)
  refine lv_iload C0.1.1 C0.1.2.1 dL_law_789 (lv_at hl 1 rfl) ?_
  by_cases ht : t.1 = 0
  · skip
    refine lv_if_ne (tgt := 806) C0.1.1 C0.1.2.1 dL_law_791 (by decide) (fun c9 => absurd (by rw [hp1.1, ht]; rfl) c9) (fun _ => ?_)
    refine lv_aload_n C0.1.1 C0.1.2.1 dL_law_794 rfl (lv_at hl 5 rfl) ?_
    refine lv_iconst (v := nI 0) C0.1.1 C0.1.2.1 dL_law_795 (by decide) ?_
    refine va_lald C0.1.1 C0.1.2.1 hz.1 hz.2.1 16 2 (cA := G.2.2.2) (n := 1) (f := u.2) rfl rfl (vp_in_nI (by decide) (by decide)) dL_law_796 ?_
    refine gl_eqL (y := t.2.1.toInt64) (by rw [nI_clamp (by decide)]; exact hp1.2.1 ht) ?_
    refine lv_iload C0.1.1 C0.1.2.1 dL_law_797 (lv_at hl 0 rfl) ?_
    refine lv_i2l (v := t.2.1.toInt64) C0.1.1 C0.1.2.1 dL_law_799 (by rw [hp2.2.1 ht]) ?_
    refine W.lcmp C0.1.1 C0.1.2.1 dL_law_800 ?_
    refine lv_if_eq (tgt := 806) C0.1.1 C0.1.2.1 dL_law_801 (by decide) (fun _ => ?_) (fun c9 => absurd ((lg_cmp_eq _ _).mpr rfl) c9)
    refine lv_goto (tgt := 1069) C0.1.1 C0.1.2.1 dL_law_806 (by decide) ?_
    have hl : lv_has ls 7 [(0, .ref b), (1, .ref (q 0)), (2, .ref (qy 0)), (3, .ref qo), (4, .int (nI i))] := lv_sub hl [2, 3, 4, 5, 6] rfl
    exact kk t.2.2 u y2 _ _ ls hp1.2.2 hp2.2.2 hIt (gs_swap hz) hl
  · skip
    have hg1 := hg.1
    refine lv_if_ne (tgt := 806) C0.1.1 C0.1.2.1 dL_law_791 (by decide) (fun _ => ?_) (fun c9 => absurd c9 (by rw [hp1.1, n0_eq (by omega)]; exact ht))
    refine lv_goto (tgt := 1069) C0.1.1 C0.1.2.1 dL_law_806 (by decide) ?_
    have hl : lv_has ls 7 [(0, .ref b), (1, .ref (q 0)), (2, .ref (qy 0)), (3, .ref qo), (4, .int (nI i))] := lv_sub hl [2, 3, 4, 5, 6] rfl
    exact kk t.2.2 u y2 _ _ ls hp1.2.2 hp2.2.2 hIt (gs_swap hz) hl
set_option maxHeartbeats 4000000 in
set_option maxRecDepth 100000 in
/-- put -/
theorem a_put {p : Program} {l : Launch} {e : Env} {s : State} {m : MethodId} {below : List Frame} {meth : Method} {c : Code} {b L : Nat} {xs : Nat → Int32} {Q : State → Prop} (hst : l.stackTraces = false) (C0 : la p s m c b L xs) (hL : L ≤ 2048) (G : gs_G) (q qy : Nat → Nat) (qo : Nat) (S : hs_S) (r : xr × (Nat → Int64)) (y : yr) (hS : rx S r.1) (hY : ry S y) (hI : hs_I S) (i : Nat) (hi : i + 3 < L) (cells slots : Nat) (hc : cells + 4 ≤ 601024) (hs : slots + 24 ≤ 7293034) (H : Heap) (locs : List Loc) (ls : Array Slot) (hz : laZ G q qy qo r y s H locs) (hl : laL ls b q qy qo i) (kk : laK p l e s m below meth c b G q qy qo i cells slots Q) : W p l e room_1 s m #[Value.ref b] below meth c H locs cells slots Q (F0 m 809 ls []) := by
  have hl : lv_has ls 7 [(0, .ref b), (1, .ref (q 0)), (2, .ref (qy 0)), (3, .ref qo), (4, .int (nI i))] := hl
  obtain ⟨t, et⟩ : ∃ t, t = sp_put S (xs (i + 1)) (xs (i + 2)) (xs (i + 3)) := ⟨_, rfl⟩
  have hg : gd S 3 t := by rw [et]; exact gd_put
  have hIt : hs_I t.2.2 := by rw [et]; exact sp_put_I hI
  refine lv_aload_n C0.1.1 C0.1.2.1 dL_law_809 rfl (lv_at hl 1 rfl) ?_
  refine lv_aload_n C0.1.1 C0.1.2.1 dL_law_810 rfl (lv_at hl 0 rfl) ?_
  refine lv_iload C0.1.1 C0.1.2.1 dL_law_811 (lv_at hl 4 rfl) ?_
  refine lv_iconst (v := nI 1) C0.1.1 C0.1.2.1 dL_law_813 (by decide) ?_
  refine lv_iadd C0.1.1 C0.1.2.1 dL_law_814 ?_
  refine gs_eq (nI_add i 1) ?_
  refine gl_ld C0 hz (by omega) hL dL_law_815 ?_
  refine lv_aload_n C0.1.1 C0.1.2.1 dL_law_816 rfl (lv_at hl 0 rfl) ?_
  refine lv_iload C0.1.1 C0.1.2.1 dL_law_817 (lv_at hl 4 rfl) ?_
  refine lv_iconst (v := nI 2) C0.1.1 C0.1.2.1 dL_law_819 (by decide) ?_
  refine lv_iadd C0.1.1 C0.1.2.1 dL_law_820 ?_
  refine gs_eq (nI_add i 2) ?_
  refine gl_ld C0 hz (by omega) hL dL_law_821 ?_
  refine lv_aload_n C0.1.1 C0.1.2.1 dL_law_822 rfl (lv_at hl 0 rfl) ?_
  refine lv_iload C0.1.1 C0.1.2.1 dL_law_823 (lv_at hl 4 rfl) ?_
  refine lv_iconst (v := nI 3) C0.1.1 C0.1.2.1 dL_law_825 (by decide) ?_
  refine lv_iadd C0.1.1 C0.1.2.1 dL_law_826 ?_
  refine gs_eq (nI_add i 3) ?_
  refine gl_ld C0 hz (by omega) hL dL_law_827 ?_
  refine lv_aload_n C0.1.1 C0.1.2.1 dL_law_828 rfl (lv_at hl 3 rfl) ?_
  refine gh_callS (w := hw G q qo) (wr := yw G qy y) C0.1 (h_put l hst G q qo r S hS hI (xs (i + 1)) (xs (i + 2)) (xs (i + 3))) (vx_cwSW 5 C0.1.2.2.2.2 gL_law_L_put rfl rfl rfl (by decide +kernel) ⟨Nat.le_of_ble_eq_true rfl, Nat.le_of_ble_eq_true rfl⟩) hz C0.2.2.2.1 C0.2.2.2.2 rfl hl.1 rfl (Nat.le_of_ble_eq_true rfl) dL_law_829 ⟨hc, hs⟩ (fun k1 u H locs hp1 hz => ?_)
  rw [← et] at hp1
  replace hz := gs_swap hz
  refine lv_istore (lv' := [(5, .int k1), (0, .ref b), (1, .ref (q 0)), (2, .ref (qy 0)), (3, .ref qo), (4, .int (nI i))]) C0.1.1 C0.1.2.1 dL_law_832 hl (by decide) rfl (fun ls hl => ?_)
  refine lv_aload_n C0.1.1 C0.1.2.1 dL_law_834 rfl (lv_at hl 3 rfl) ?_
  refine lv_aload_n C0.1.1 C0.1.2.1 dL_law_835 rfl (lv_at hl 1 rfl) ?_
  refine lv_iload C0.1.1 C0.1.2.1 dL_law_836 (lv_at hl 5 rfl) ?_
  refine lv_iconst (v := nI 1) C0.1.1 C0.1.2.1 dL_law_838 (by decide) ?_
  refine lv_iadd C0.1.1 C0.1.2.1 dL_law_839 ?_
  refine gs_eq (nI_add i 1) ?_
  refine gl_ld C0 hz (by omega) hL dL_law_840 ?_
  refine lv_aload_n C0.1.1 C0.1.2.1 dL_law_841 rfl (lv_at hl 1 rfl) ?_
  refine lv_iload C0.1.1 C0.1.2.1 dL_law_842 (lv_at hl 5 rfl) ?_
  refine lv_iconst (v := nI 2) C0.1.1 C0.1.2.1 dL_law_844 (by decide) ?_
  refine lv_iadd C0.1.1 C0.1.2.1 dL_law_845 ?_
  refine gs_eq (nI_add i 2) ?_
  refine gl_ld C0 hz (by omega) hL dL_law_846 ?_
  refine lv_aload_n C0.1.1 C0.1.2.1 dL_law_847 rfl (lv_at hl 1 rfl) ?_
  refine lv_iload C0.1.1 C0.1.2.1 dL_law_848 (lv_at hl 5 rfl) ?_
  refine lv_iconst (v := nI 3) C0.1.1 C0.1.2.1 dL_law_850 (by decide) ?_
  refine lv_iadd C0.1.1 C0.1.2.1 dL_law_851 ?_
  refine gs_eq (nI_add i 3) ?_
  refine gl_ld C0 hz (by omega) hL dL_law_852 ?_
  refine gs_callVi (w := yw G qy) (wr := hw G q qo u) C0.1 (m_put l G qy y S hY hI (xs (i + 1)) (xs (i + 2)) (xs (i + 3))) (cwV 3 C0.1.2.2.2.2 gL_law_X1_put rfl rfl rfl (by decide +kernel) ⟨Nat.le_of_ble_eq_true rfl, Nat.le_of_ble_eq_true rfl⟩) (ci := 1) rfl rfl rfl hz rfl hl.1 rfl (Nat.le_of_ble_eq_true rfl) dL_law_853 ⟨hc, hs⟩ (fun k2 y2 H locs hp2 hz => ?_)
  rw [← et] at hp2
  refine lv_istore (lv' := [(6, .int k2), (5, .int k1), (0, .ref b), (1, .ref (q 0)), (2, .ref (qy 0)), (3, .ref qo), (4, .int (nI i))]) C0.1.1 C0.1.2.1 dL_law_856 hl (by decide) rfl (fun ls hl => ?_)
  refine lv_aload_n C0.1.1 C0.1.2.1 dL_law_858 rfl (lv_at hl 4 rfl) ?_
  refine gs_callVi (w := yw G qy) (wr := hw G q qo u) C0.1 (m_thrown l G qy y2) (cwV 0 C0.1.2.2.2.2 gL_law_X1_thrown rfl rfl rfl (by decide +kernel) ⟨Nat.le_of_ble_eq_true rfl, Nat.le_of_ble_eq_true rfl⟩) (ci := 1) rfl rfl rfl hz rfl hl.1 rfl (Nat.le_of_ble_eq_true rfl) dL_law_859 ⟨hc, hs⟩ (fun k3 y3 H locs hp3 hz => ?_)
  rw [hp3.1] at hz
  refine gs_eq (y := y_th y2) hp3.2 ?_
  refine lv_iload C0.1.1 C0.1.2.1 dL_law_862 (lv_at hl 1 rfl) ?_
  refine lv_icmp_eq (tgt := 869) C0.1.1 C0.1.2.1 dL_law_864 (by decide) (fun _ => ?_) (fun c9 => absurd (by rw [hp2.1, hp1.1]) c9)
  refine lv_iload C0.1.1 C0.1.2.1 dL_law_869 (lv_at hl 1 rfl) ?_
  by_cases ht : t.1 = 0
  · skip
    refine lv_if_ne (tgt := 886) C0.1.1 C0.1.2.1 dL_law_871 (by decide) (fun c9 => absurd (by rw [hp1.1, ht]; rfl) c9) (fun _ => ?_)
    refine lv_aload_n C0.1.1 C0.1.2.1 dL_law_874 rfl (lv_at hl 5 rfl) ?_
    refine lv_iconst (v := nI 0) C0.1.1 C0.1.2.1 dL_law_875 (by decide) ?_
    refine va_lald C0.1.1 C0.1.2.1 hz.1 hz.2.1 16 2 (cA := G.2.2.2) (n := 1) (f := u.2) rfl rfl (vp_in_nI (by decide) (by decide)) dL_law_876 ?_
    refine gl_eqL (y := t.2.1.toInt64) (by rw [nI_clamp (by decide)]; exact hp1.2.1 ht) ?_
    refine lv_iload C0.1.1 C0.1.2.1 dL_law_877 (lv_at hl 0 rfl) ?_
    refine lv_i2l (v := t.2.1.toInt64) C0.1.1 C0.1.2.1 dL_law_879 (by rw [hp2.2.1 ht]) ?_
    refine W.lcmp C0.1.1 C0.1.2.1 dL_law_880 ?_
    refine lv_if_eq (tgt := 886) C0.1.1 C0.1.2.1 dL_law_881 (by decide) (fun _ => ?_) (fun c9 => absurd ((lg_cmp_eq _ _).mpr rfl) c9)
    refine lv_goto (tgt := 1069) C0.1.1 C0.1.2.1 dL_law_886 (by decide) ?_
    have hl : lv_has ls 7 [(0, .ref b), (1, .ref (q 0)), (2, .ref (qy 0)), (3, .ref qo), (4, .int (nI i))] := lv_sub hl [2, 3, 4, 5, 6] rfl
    exact kk t.2.2 u y2 _ _ ls hp1.2.2 hp2.2.2 hIt (gs_swap hz) hl
  · skip
    have hg1 := hg.1
    refine lv_if_ne (tgt := 886) C0.1.1 C0.1.2.1 dL_law_871 (by decide) (fun _ => ?_) (fun c9 => absurd c9 (by rw [hp1.1, n0_eq (by omega)]; exact ht))
    refine lv_goto (tgt := 1069) C0.1.1 C0.1.2.1 dL_law_886 (by decide) ?_
    have hl : lv_has ls 7 [(0, .ref b), (1, .ref (q 0)), (2, .ref (qy 0)), (3, .ref qo), (4, .int (nI i))] := lv_sub hl [2, 3, 4, 5, 6] rfl
    exact kk t.2.2 u y2 _ _ ls hp1.2.2 hp2.2.2 hIt (gs_swap hz) hl
set_option maxHeartbeats 4000000 in
set_option maxRecDepth 100000 in
/-- get -/
theorem a_get {p : Program} {l : Launch} {e : Env} {s : State} {m : MethodId} {below : List Frame} {meth : Method} {c : Code} {b L : Nat} {xs : Nat → Int32} {Q : State → Prop} (hst : l.stackTraces = false) (C0 : la p s m c b L xs) (hL : L ≤ 2048) (G : gs_G) (q qy : Nat → Nat) (qo : Nat) (S : hs_S) (r : xr × (Nat → Int64)) (y : yr) (hS : rx S r.1) (hY : ry S y) (hI : hs_I S) (i : Nat) (hi : i + 3 < L) (cells slots : Nat) (hc : cells + 4 ≤ 601024) (hs : slots + 24 ≤ 7293034) (H : Heap) (locs : List Loc) (ls : Array Slot) (hz : laZ G q qy qo r y s H locs) (hl : laL ls b q qy qo i) (kk : laK p l e s m below meth c b G q qy qo i cells slots Q) : W p l e room_1 s m #[Value.ref b] below meth c H locs cells slots Q (F0 m 889 ls []) := by
  have hl : lv_has ls 7 [(0, .ref b), (1, .ref (q 0)), (2, .ref (qy 0)), (3, .ref qo), (4, .int (nI i))] := hl
  obtain ⟨t, et⟩ : ∃ t, t = sp_get S (xs (i + 1)) (xs (i + 2)) := ⟨_, rfl⟩
  have hg : gd S 3 t := by rw [et]; exact gd_get
  have hIt : hs_I t.2.2 := by rw [et]; exact sp_get_I hI
  refine lv_aload_n C0.1.1 C0.1.2.1 dL_law_889 rfl (lv_at hl 1 rfl) ?_
  refine lv_aload_n C0.1.1 C0.1.2.1 dL_law_890 rfl (lv_at hl 0 rfl) ?_
  refine lv_iload C0.1.1 C0.1.2.1 dL_law_891 (lv_at hl 4 rfl) ?_
  refine lv_iconst (v := nI 1) C0.1.1 C0.1.2.1 dL_law_893 (by decide) ?_
  refine lv_iadd C0.1.1 C0.1.2.1 dL_law_894 ?_
  refine gs_eq (nI_add i 1) ?_
  refine gl_ld C0 hz (by omega) hL dL_law_895 ?_
  refine lv_aload_n C0.1.1 C0.1.2.1 dL_law_896 rfl (lv_at hl 0 rfl) ?_
  refine lv_iload C0.1.1 C0.1.2.1 dL_law_897 (lv_at hl 4 rfl) ?_
  refine lv_iconst (v := nI 2) C0.1.1 C0.1.2.1 dL_law_899 (by decide) ?_
  refine lv_iadd C0.1.1 C0.1.2.1 dL_law_900 ?_
  refine gs_eq (nI_add i 2) ?_
  refine gl_ld C0 hz (by omega) hL dL_law_901 ?_
  refine lv_aload_n C0.1.1 C0.1.2.1 dL_law_902 rfl (lv_at hl 3 rfl) ?_
  refine gh_callS (w := hw G q qo) (wr := yw G qy y) C0.1 (h_get l hst G q qo r S hS hI (xs (i + 1)) (xs (i + 2))) (vx_cwSW 4 C0.1.2.2.2.2 gL_law_L_get rfl rfl rfl (by decide +kernel) ⟨Nat.le_of_ble_eq_true rfl, Nat.le_of_ble_eq_true rfl⟩) hz C0.2.2.2.1 C0.2.2.2.2 rfl hl.1 rfl (Nat.le_of_ble_eq_true rfl) dL_law_903 ⟨hc, hs⟩ (fun k1 u H locs hp1 hz => ?_)
  rw [← et] at hp1
  replace hz := gs_swap hz
  refine lv_istore (lv' := [(5, .int k1), (0, .ref b), (1, .ref (q 0)), (2, .ref (qy 0)), (3, .ref qo), (4, .int (nI i))]) C0.1.1 C0.1.2.1 dL_law_906 hl (by decide) rfl (fun ls hl => ?_)
  refine lv_aload_n C0.1.1 C0.1.2.1 dL_law_908 rfl (lv_at hl 3 rfl) ?_
  refine lv_aload_n C0.1.1 C0.1.2.1 dL_law_909 rfl (lv_at hl 1 rfl) ?_
  refine lv_iload C0.1.1 C0.1.2.1 dL_law_910 (lv_at hl 5 rfl) ?_
  refine lv_iconst (v := nI 1) C0.1.1 C0.1.2.1 dL_law_912 (by decide) ?_
  refine lv_iadd C0.1.1 C0.1.2.1 dL_law_913 ?_
  refine gs_eq (nI_add i 1) ?_
  refine gl_ld C0 hz (by omega) hL dL_law_914 ?_
  refine lv_aload_n C0.1.1 C0.1.2.1 dL_law_915 rfl (lv_at hl 1 rfl) ?_
  refine lv_iload C0.1.1 C0.1.2.1 dL_law_916 (lv_at hl 5 rfl) ?_
  refine lv_iconst (v := nI 2) C0.1.1 C0.1.2.1 dL_law_918 (by decide) ?_
  refine lv_iadd C0.1.1 C0.1.2.1 dL_law_919 ?_
  refine gs_eq (nI_add i 2) ?_
  refine gl_ld C0 hz (by omega) hL dL_law_920 ?_
  refine gs_callVi (w := yw G qy) (wr := hw G q qo u) C0.1 (m_get l G qy y S hY hI (xs (i + 1)) (xs (i + 2))) (cwV 2 C0.1.2.2.2.2 gL_law_X1_get rfl rfl rfl (by decide +kernel) ⟨Nat.le_of_ble_eq_true rfl, Nat.le_of_ble_eq_true rfl⟩) (ci := 1) rfl rfl rfl hz rfl hl.1 rfl (Nat.le_of_ble_eq_true rfl) dL_law_921 ⟨hc, hs⟩ (fun k2 y2 H locs hp2 hz => ?_)
  rw [← et] at hp2
  refine lv_istore (lv' := [(6, .int k2), (5, .int k1), (0, .ref b), (1, .ref (q 0)), (2, .ref (qy 0)), (3, .ref qo), (4, .int (nI i))]) C0.1.1 C0.1.2.1 dL_law_924 hl (by decide) rfl (fun ls hl => ?_)
  refine lv_aload_n C0.1.1 C0.1.2.1 dL_law_926 rfl (lv_at hl 4 rfl) ?_
  refine gs_callVi (w := yw G qy) (wr := hw G q qo u) C0.1 (m_thrown l G qy y2) (cwV 0 C0.1.2.2.2.2 gL_law_X1_thrown rfl rfl rfl (by decide +kernel) ⟨Nat.le_of_ble_eq_true rfl, Nat.le_of_ble_eq_true rfl⟩) (ci := 1) rfl rfl rfl hz rfl hl.1 rfl (Nat.le_of_ble_eq_true rfl) dL_law_927 ⟨hc, hs⟩ (fun k3 y3 H locs hp3 hz => ?_)
  rw [hp3.1] at hz
  refine gs_eq (y := y_th y2) hp3.2 ?_
  refine lv_iload C0.1.1 C0.1.2.1 dL_law_930 (lv_at hl 1 rfl) ?_
  refine lv_icmp_eq (tgt := 937) C0.1.1 C0.1.2.1 dL_law_932 (by decide) (fun _ => ?_) (fun c9 => absurd (by rw [hp2.1, hp1.1]) c9)
  refine lv_iload C0.1.1 C0.1.2.1 dL_law_937 (lv_at hl 1 rfl) ?_
  by_cases ht : t.1 = 0
  · skip
    refine lv_if_ne (tgt := 954) C0.1.1 C0.1.2.1 dL_law_939 (by decide) (fun c9 => absurd (by rw [hp1.1, ht]; rfl) c9) (fun _ => ?_)
    refine lv_aload_n C0.1.1 C0.1.2.1 dL_law_942 rfl (lv_at hl 5 rfl) ?_
    refine lv_iconst (v := nI 0) C0.1.1 C0.1.2.1 dL_law_943 (by decide) ?_
    refine va_lald C0.1.1 C0.1.2.1 hz.1 hz.2.1 16 2 (cA := G.2.2.2) (n := 1) (f := u.2) rfl rfl (vp_in_nI (by decide) (by decide)) dL_law_944 ?_
    refine gl_eqL (y := t.2.1.toInt64) (by rw [nI_clamp (by decide)]; exact hp1.2.1 ht) ?_
    refine lv_iload C0.1.1 C0.1.2.1 dL_law_945 (lv_at hl 0 rfl) ?_
    refine lv_i2l (v := t.2.1.toInt64) C0.1.1 C0.1.2.1 dL_law_947 (by rw [hp2.2.1 ht]) ?_
    refine W.lcmp C0.1.1 C0.1.2.1 dL_law_948 ?_
    refine lv_if_eq (tgt := 954) C0.1.1 C0.1.2.1 dL_law_949 (by decide) (fun _ => ?_) (fun c9 => absurd ((lg_cmp_eq _ _).mpr rfl) c9)
    refine lv_goto (tgt := 1069) C0.1.1 C0.1.2.1 dL_law_954 (by decide) ?_
    have hl : lv_has ls 7 [(0, .ref b), (1, .ref (q 0)), (2, .ref (qy 0)), (3, .ref qo), (4, .int (nI i))] := lv_sub hl [2, 3, 4, 5, 6] rfl
    exact kk t.2.2 u y2 _ _ ls hp1.2.2 hp2.2.2 hIt (gs_swap hz) hl
  · skip
    have hg1 := hg.1
    refine lv_if_ne (tgt := 954) C0.1.1 C0.1.2.1 dL_law_939 (by decide) (fun _ => ?_) (fun c9 => absurd c9 (by rw [hp1.1, n0_eq (by omega)]; exact ht))
    refine lv_goto (tgt := 1069) C0.1.1 C0.1.2.1 dL_law_954 (by decide) ?_
    have hl : lv_has ls 7 [(0, .ref b), (1, .ref (q 0)), (2, .ref (qy 0)), (3, .ref qo), (4, .int (nI i))] := lv_sub hl [2, 3, 4, 5, 6] rfl
    exact kk t.2.2 u y2 _ _ ls hp1.2.2 hp2.2.2 hIt (gs_swap hz) hl
set_option maxHeartbeats 4000000 in
set_option maxRecDepth 100000 in
/-- owner -/
theorem a_owner {p : Program} {l : Launch} {e : Env} {s : State} {m : MethodId} {below : List Frame} {meth : Method} {c : Code} {b L : Nat} {xs : Nat → Int32} {Q : State → Prop} (hst : l.stackTraces = false) (C0 : la p s m c b L xs) (hL : L ≤ 2048) (G : gs_G) (q qy : Nat → Nat) (qo : Nat) (S : hs_S) (r : xr × (Nat → Int64)) (y : yr) (hS : rx S r.1) (hY : ry S y) (hI : hs_I S) (i : Nat) (hi : i + 3 < L) (cells slots : Nat) (hc : cells + 4 ≤ 601024) (hs : slots + 24 ≤ 7293034) (H : Heap) (locs : List Loc) (ls : Array Slot) (hz : laZ G q qy qo r y s H locs) (hl : laL ls b q qy qo i) (kk : laK p l e s m below meth c b G q qy qo i cells slots Q) : W p l e room_1 s m #[Value.ref b] below meth c H locs cells slots Q (F0 m 957 ls []) := by
  have hl : lv_has ls 7 [(0, .ref b), (1, .ref (q 0)), (2, .ref (qy 0)), (3, .ref qo), (4, .int (nI i))] := hl
  obtain ⟨t, et⟩ : ∃ t, t = sp_owner S (xs (i + 1)) := ⟨_, rfl⟩
  have hg : gd S 1 t := by rw [et]; exact gd_owner
  have hIt : hs_I t.2.2 := by rw [et]; exact sp_owner_I hI
  refine lv_aload_n C0.1.1 C0.1.2.1 dL_law_957 rfl (lv_at hl 1 rfl) ?_
  refine lv_aload_n C0.1.1 C0.1.2.1 dL_law_958 rfl (lv_at hl 0 rfl) ?_
  refine lv_iload C0.1.1 C0.1.2.1 dL_law_959 (lv_at hl 4 rfl) ?_
  refine lv_iconst (v := nI 1) C0.1.1 C0.1.2.1 dL_law_961 (by decide) ?_
  refine lv_iadd C0.1.1 C0.1.2.1 dL_law_962 ?_
  refine gs_eq (nI_add i 1) ?_
  refine gl_ld C0 hz (by omega) hL dL_law_963 ?_
  refine lv_aload_n C0.1.1 C0.1.2.1 dL_law_964 rfl (lv_at hl 3 rfl) ?_
  refine gh_callS (w := hw G q qo) (wr := yw G qy y) C0.1 (h_owner l hst G q qo r S hS hI (xs (i + 1))) (vx_cwSW 3 C0.1.2.2.2.2 gL_law_L_owner rfl rfl rfl (by decide +kernel) ⟨Nat.le_of_ble_eq_true rfl, Nat.le_of_ble_eq_true rfl⟩) hz C0.2.2.2.1 C0.2.2.2.2 rfl hl.1 rfl (Nat.le_of_ble_eq_true rfl) dL_law_965 ⟨hc, hs⟩ (fun k1 u H locs hp1 hz => ?_)
  rw [← et] at hp1
  replace hz := gs_swap hz
  refine lv_istore (lv' := [(5, .int k1), (0, .ref b), (1, .ref (q 0)), (2, .ref (qy 0)), (3, .ref qo), (4, .int (nI i))]) C0.1.1 C0.1.2.1 dL_law_968 hl (by decide) rfl (fun ls hl => ?_)
  refine lv_aload_n C0.1.1 C0.1.2.1 dL_law_970 rfl (lv_at hl 3 rfl) ?_
  refine lv_aload_n C0.1.1 C0.1.2.1 dL_law_971 rfl (lv_at hl 1 rfl) ?_
  refine lv_iload C0.1.1 C0.1.2.1 dL_law_972 (lv_at hl 5 rfl) ?_
  refine lv_iconst (v := nI 1) C0.1.1 C0.1.2.1 dL_law_974 (by decide) ?_
  refine lv_iadd C0.1.1 C0.1.2.1 dL_law_975 ?_
  refine gs_eq (nI_add i 1) ?_
  refine gl_ld C0 hz (by omega) hL dL_law_976 ?_
  refine gs_callVi (w := yw G qy) (wr := hw G q qo u) C0.1 (m_owner l G qy y S hY hI (xs (i + 1))) (cwV 1 C0.1.2.2.2.2 gL_law_X1_owner rfl rfl rfl (by decide +kernel) ⟨Nat.le_of_ble_eq_true rfl, Nat.le_of_ble_eq_true rfl⟩) (ci := 1) rfl rfl rfl hz rfl hl.1 rfl (Nat.le_of_ble_eq_true rfl) dL_law_977 ⟨hc, hs⟩ (fun k2 y2 H locs hp2 hz => ?_)
  rw [← et] at hp2
  refine lv_istore (lv' := [(6, .int k2), (5, .int k1), (0, .ref b), (1, .ref (q 0)), (2, .ref (qy 0)), (3, .ref qo), (4, .int (nI i))]) C0.1.1 C0.1.2.1 dL_law_980 hl (by decide) rfl (fun ls hl => ?_)
  refine lv_aload_n C0.1.1 C0.1.2.1 dL_law_982 rfl (lv_at hl 4 rfl) ?_
  refine gs_callVi (w := yw G qy) (wr := hw G q qo u) C0.1 (m_thrown l G qy y2) (cwV 0 C0.1.2.2.2.2 gL_law_X1_thrown rfl rfl rfl (by decide +kernel) ⟨Nat.le_of_ble_eq_true rfl, Nat.le_of_ble_eq_true rfl⟩) (ci := 1) rfl rfl rfl hz rfl hl.1 rfl (Nat.le_of_ble_eq_true rfl) dL_law_983 ⟨hc, hs⟩ (fun k3 y3 H locs hp3 hz => ?_)
  rw [hp3.1] at hz
  refine gs_eq (y := y_th y2) hp3.2 ?_
  refine lv_iload C0.1.1 C0.1.2.1 dL_law_986 (lv_at hl 1 rfl) ?_
  refine lv_icmp_eq (tgt := 993) C0.1.1 C0.1.2.1 dL_law_988 (by decide) (fun _ => ?_) (fun c9 => absurd (by rw [hp2.1, hp1.1]) c9)
  refine lv_iload C0.1.1 C0.1.2.1 dL_law_993 (lv_at hl 1 rfl) ?_
  by_cases ht : t.1 = 0
  · skip
    refine lv_if_ne (tgt := 1010) C0.1.1 C0.1.2.1 dL_law_995 (by decide) (fun c9 => absurd (by rw [hp1.1, ht]; rfl) c9) (fun _ => ?_)
    refine lv_aload_n C0.1.1 C0.1.2.1 dL_law_998 rfl (lv_at hl 5 rfl) ?_
    refine lv_iconst (v := nI 0) C0.1.1 C0.1.2.1 dL_law_999 (by decide) ?_
    refine va_lald C0.1.1 C0.1.2.1 hz.1 hz.2.1 16 2 (cA := G.2.2.2) (n := 1) (f := u.2) rfl rfl (vp_in_nI (by decide) (by decide)) dL_law_1000 ?_
    refine gl_eqL (y := t.2.1.toInt64) (by rw [nI_clamp (by decide)]; exact hp1.2.1 ht) ?_
    refine lv_iload C0.1.1 C0.1.2.1 dL_law_1001 (lv_at hl 0 rfl) ?_
    refine lv_i2l (v := t.2.1.toInt64) C0.1.1 C0.1.2.1 dL_law_1003 (by rw [hp2.2.1 ht]) ?_
    refine W.lcmp C0.1.1 C0.1.2.1 dL_law_1004 ?_
    refine lv_if_eq (tgt := 1010) C0.1.1 C0.1.2.1 dL_law_1005 (by decide) (fun _ => ?_) (fun c9 => absurd ((lg_cmp_eq _ _).mpr rfl) c9)
    refine lv_goto (tgt := 1069) C0.1.1 C0.1.2.1 dL_law_1010 (by decide) ?_
    have hl : lv_has ls 7 [(0, .ref b), (1, .ref (q 0)), (2, .ref (qy 0)), (3, .ref qo), (4, .int (nI i))] := lv_sub hl [2, 3, 4, 5, 6] rfl
    exact kk t.2.2 u y2 _ _ ls hp1.2.2 hp2.2.2 hIt (gs_swap hz) hl
  · skip
    have hg1 := hg.1
    refine lv_if_ne (tgt := 1010) C0.1.1 C0.1.2.1 dL_law_995 (by decide) (fun _ => ?_) (fun c9 => absurd c9 (by rw [hp1.1, n0_eq (by omega)]; exact ht))
    refine lv_goto (tgt := 1069) C0.1.1 C0.1.2.1 dL_law_1010 (by decide) ?_
    have hl : lv_has ls 7 [(0, .ref b), (1, .ref (q 0)), (2, .ref (qy 0)), (3, .ref qo), (4, .int (nI i))] := lv_sub hl [2, 3, 4, 5, 6] rfl
    exact kk t.2.2 u y2 _ _ ls hp1.2.2 hp2.2.2 hIt (gs_swap hz) hl
set_option maxHeartbeats 4000000 in
set_option maxRecDepth 100000 in
/-- told -/
theorem a_told {p : Program} {l : Launch} {e : Env} {s : State} {m : MethodId} {below : List Frame} {meth : Method} {c : Code} {b L : Nat} {xs : Nat → Int32} {Q : State → Prop} (hst : l.stackTraces = false) (C0 : la p s m c b L xs) (hL : L ≤ 2048) (G : gs_G) (q qy : Nat → Nat) (qo : Nat) (S : hs_S) (r : xr × (Nat → Int64)) (y : yr) (hS : rx S r.1) (hY : ry S y) (hI : hs_I S) (i : Nat) (hi : i + 3 < L) (cells slots : Nat) (hc : cells + 4 ≤ 601024) (hs : slots + 24 ≤ 7293034) (H : Heap) (locs : List Loc) (ls : Array Slot) (hz : laZ G q qy qo r y s H locs) (hl : laL ls b q qy qo i) (kk : laK p l e s m below meth c b G q qy qo i cells slots Q) : W p l e room_1 s m #[Value.ref b] below meth c H locs cells slots Q (F0 m 1013 ls []) := by
  have hl : lv_has ls 7 [(0, .ref b), (1, .ref (q 0)), (2, .ref (qy 0)), (3, .ref qo), (4, .int (nI i))] := hl
  obtain ⟨t, et⟩ : ∃ t, t = sp_told S (xs (i + 1)) := ⟨_, rfl⟩
  have hg : gd S 1 t := by rw [et]; exact gd_told
  have hIt : hs_I t.2.2 := by rw [et]; exact sp_told_I hI
  refine lv_aload_n C0.1.1 C0.1.2.1 dL_law_1013 rfl (lv_at hl 1 rfl) ?_
  refine lv_aload_n C0.1.1 C0.1.2.1 dL_law_1014 rfl (lv_at hl 0 rfl) ?_
  refine lv_iload C0.1.1 C0.1.2.1 dL_law_1015 (lv_at hl 4 rfl) ?_
  refine lv_iconst (v := nI 1) C0.1.1 C0.1.2.1 dL_law_1017 (by decide) ?_
  refine lv_iadd C0.1.1 C0.1.2.1 dL_law_1018 ?_
  refine gs_eq (nI_add i 1) ?_
  refine gl_ld C0 hz (by omega) hL dL_law_1019 ?_
  refine lv_aload_n C0.1.1 C0.1.2.1 dL_law_1020 rfl (lv_at hl 3 rfl) ?_
  refine gh_callS (w := hw G q qo) (wr := yw G qy y) C0.1 (h_told l hst G q qo r S hS hI (xs (i + 1))) (vx_cwSW 3 C0.1.2.2.2.2 gL_law_L_told rfl rfl rfl (by decide +kernel) ⟨Nat.le_of_ble_eq_true rfl, Nat.le_of_ble_eq_true rfl⟩) hz C0.2.2.2.1 C0.2.2.2.2 rfl hl.1 rfl (Nat.le_of_ble_eq_true rfl) dL_law_1021 ⟨hc, hs⟩ (fun k1 u H locs hp1 hz => ?_)
  rw [← et] at hp1
  replace hz := gs_swap hz
  refine lv_istore (lv' := [(5, .int k1), (0, .ref b), (1, .ref (q 0)), (2, .ref (qy 0)), (3, .ref qo), (4, .int (nI i))]) C0.1.1 C0.1.2.1 dL_law_1024 hl (by decide) rfl (fun ls hl => ?_)
  refine lv_aload_n C0.1.1 C0.1.2.1 dL_law_1026 rfl (lv_at hl 3 rfl) ?_
  refine lv_aload_n C0.1.1 C0.1.2.1 dL_law_1027 rfl (lv_at hl 1 rfl) ?_
  refine lv_iload C0.1.1 C0.1.2.1 dL_law_1028 (lv_at hl 5 rfl) ?_
  refine lv_iconst (v := nI 1) C0.1.1 C0.1.2.1 dL_law_1030 (by decide) ?_
  refine lv_iadd C0.1.1 C0.1.2.1 dL_law_1031 ?_
  refine gs_eq (nI_add i 1) ?_
  refine gl_ld C0 hz (by omega) hL dL_law_1032 ?_
  refine gs_callVi (w := yw G qy) (wr := hw G q qo u) C0.1 (m_told l G qy y S hY hI (xs (i + 1))) (cwV 1 C0.1.2.2.2.2 gL_law_X1_told rfl rfl rfl (by decide +kernel) ⟨Nat.le_of_ble_eq_true rfl, Nat.le_of_ble_eq_true rfl⟩) (ci := 1) rfl rfl rfl hz rfl hl.1 rfl (Nat.le_of_ble_eq_true rfl) dL_law_1033 ⟨hc, hs⟩ (fun k2 y2 H locs hp2 hz => ?_)
  rw [← et] at hp2
  refine lv_istore (lv' := [(6, .int k2), (5, .int k1), (0, .ref b), (1, .ref (q 0)), (2, .ref (qy 0)), (3, .ref qo), (4, .int (nI i))]) C0.1.1 C0.1.2.1 dL_law_1036 hl (by decide) rfl (fun ls hl => ?_)
  refine lv_aload_n C0.1.1 C0.1.2.1 dL_law_1038 rfl (lv_at hl 4 rfl) ?_
  refine gs_callVi (w := yw G qy) (wr := hw G q qo u) C0.1 (m_thrown l G qy y2) (cwV 0 C0.1.2.2.2.2 gL_law_X1_thrown rfl rfl rfl (by decide +kernel) ⟨Nat.le_of_ble_eq_true rfl, Nat.le_of_ble_eq_true rfl⟩) (ci := 1) rfl rfl rfl hz rfl hl.1 rfl (Nat.le_of_ble_eq_true rfl) dL_law_1039 ⟨hc, hs⟩ (fun k3 y3 H locs hp3 hz => ?_)
  rw [hp3.1] at hz
  refine gs_eq (y := y_th y2) hp3.2 ?_
  refine lv_iload C0.1.1 C0.1.2.1 dL_law_1042 (lv_at hl 1 rfl) ?_
  refine lv_icmp_eq (tgt := 1049) C0.1.1 C0.1.2.1 dL_law_1044 (by decide) (fun _ => ?_) (fun c9 => absurd (by rw [hp2.1, hp1.1]) c9)
  refine lv_iload C0.1.1 C0.1.2.1 dL_law_1049 (lv_at hl 1 rfl) ?_
  by_cases ht : t.1 = 0
  · skip
    refine lv_if_ne (tgt := 1066) C0.1.1 C0.1.2.1 dL_law_1051 (by decide) (fun c9 => absurd (by rw [hp1.1, ht]; rfl) c9) (fun _ => ?_)
    refine lv_aload_n C0.1.1 C0.1.2.1 dL_law_1054 rfl (lv_at hl 5 rfl) ?_
    refine lv_iconst (v := nI 0) C0.1.1 C0.1.2.1 dL_law_1055 (by decide) ?_
    refine va_lald C0.1.1 C0.1.2.1 hz.1 hz.2.1 16 2 (cA := G.2.2.2) (n := 1) (f := u.2) rfl rfl (vp_in_nI (by decide) (by decide)) dL_law_1056 ?_
    refine gl_eqL (y := t.2.1.toInt64) (by rw [nI_clamp (by decide)]; exact hp1.2.1 ht) ?_
    refine lv_iload C0.1.1 C0.1.2.1 dL_law_1057 (lv_at hl 0 rfl) ?_
    refine lv_i2l (v := t.2.1.toInt64) C0.1.1 C0.1.2.1 dL_law_1059 (by rw [hp2.2.1 ht]) ?_
    refine W.lcmp C0.1.1 C0.1.2.1 dL_law_1060 ?_
    refine lv_if_eq (tgt := 1066) C0.1.1 C0.1.2.1 dL_law_1061 (by decide) (fun _ => ?_) (fun c9 => absurd ((lg_cmp_eq _ _).mpr rfl) c9)
    refine lv_goto (tgt := 1069) C0.1.1 C0.1.2.1 dL_law_1066 (by decide) ?_
    have hl : lv_has ls 7 [(0, .ref b), (1, .ref (q 0)), (2, .ref (qy 0)), (3, .ref qo), (4, .int (nI i))] := lv_sub hl [2, 3, 4, 5, 6] rfl
    exact kk t.2.2 u y2 _ _ ls hp1.2.2 hp2.2.2 hIt (gs_swap hz) hl
  · skip
    have hg1 := hg.1
    refine lv_if_ne (tgt := 1066) C0.1.1 C0.1.2.1 dL_law_1051 (by decide) (fun _ => ?_) (fun c9 => absurd c9 (by rw [hp1.1, n0_eq (by omega)]; exact ht))
    refine lv_goto (tgt := 1069) C0.1.1 C0.1.2.1 dL_law_1066 (by decide) ?_
    have hl : lv_has ls 7 [(0, .ref b), (1, .ref (q 0)), (2, .ref (qy 0)), (3, .ref qo), (4, .int (nI i))] := lv_sub hl [2, 3, 4, 5, 6] rfl
    exact kk t.2.2 u y2 _ _ ls hp1.2.2 hp2.2.2 hIt (gs_swap hz) hl
set_option maxHeartbeats 4000000 in
set_option maxRecDepth 100000 in
/-- slide -/
theorem a_slide {p : Program} {l : Launch} {e : Env} {s : State} {m : MethodId} {below : List Frame} {meth : Method} {c : Code} {b L : Nat} {xs : Nat → Int32} {Q : State → Prop} (hst : l.stackTraces = false) (C0 : la p s m c b L xs) (hL : L ≤ 2048) (G : gs_G) (q qy : Nat → Nat) (qo : Nat) (S : hs_S) (r : xr × (Nat → Int64)) (y : yr) (hS : rx S r.1) (hY : ry S y) (hI : hs_I S) (i : Nat) (hi : i + 3 < L) (cells slots : Nat) (hc : cells + 4 ≤ 601024) (hs : slots + 24 ≤ 7293034) (H : Heap) (locs : List Loc) (ls : Array Slot) (hz : laZ G q qy qo r y s H locs) (hl : laL ls b q qy qo i) (kk : laK p l e s m below meth c b G q qy qo i cells slots Q) : W p l e room_1 s m #[Value.ref b] below meth c H locs cells slots Q (F0 m 628 ls []) := by
  have hl : lv_has ls 7 [(0, .ref b), (1, .ref (q 0)), (2, .ref (qy 0)), (3, .ref qo), (4, .int (nI i))] := hl
  have hc0 : cells ≤ 601024 := Nat.le_trans (Nat.le_add_right _ 4) hc
  have hs0 : slots ≤ 7293034 := Nat.le_trans (Nat.le_add_right _ 24) hs
  have hz : gs_Z G (xw G q r.1 ++ ([(qo, .inl (G.2.2.2, 1, .inr (.inl r.2)))] ++ yw G qy y)) (fun q : Nat => s.heap.size ≤ q) s H locs := by rw [← List.append_assoc]; exact hz
  refine lv_aload_n C0.1.1 C0.1.2.1 dL_law_628 rfl (lv_at hl 1 rfl) ?_
  refine gs_callVi (w := xw G q) (wr := [(qo, .inl (G.2.2.2, 1, .inr (.inl r.2)))] ++ yw G qy y) C0.1 (k_slide l G q r.1 S hS hI) (cwV 0 C0.1.2.2.2.2 gL_law_X0_slide rfl rfl rfl (by decide +kernel) ⟨Nat.le_of_ble_eq_true rfl, Nat.le_of_ble_eq_true rfl⟩) (ci := 0) rfl rfl rfl hz rfl hl.1 rfl (Nat.le_of_ble_eq_true rfl) dL_law_629 ⟨hc0, hs0⟩ (fun k1 u H locs hp1 hz => ?_)
  rw [← List.append_assoc] at hz
  have hz : gs_Z G (hw G q qo (u, r.2) ++ yw G qy y) (fun q : Nat => s.heap.size ≤ q) s H locs := hz
  replace hz := gs_swap hz
  refine lv_aload_n C0.1.1 C0.1.2.1 dL_law_632 rfl (lv_at hl 2 rfl) ?_
  refine gs_callVi (w := yw G qy) (wr := hw G q qo (u, r.2)) C0.1 (m_slide l G qy y S hY hI) (cwV 0 C0.1.2.2.2.2 gL_law_X1_slide rfl rfl rfl (by decide +kernel) ⟨Nat.le_of_ble_eq_true rfl, Nat.le_of_ble_eq_true rfl⟩) (ci := 1) rfl rfl rfl hz rfl hl.1 rfl (Nat.le_of_ble_eq_true rfl) dL_law_633 ⟨hc0, hs0⟩ (fun k2 y2 H locs hp2 hz => ?_)
  refine lv_icmp_eq (tgt := 1069) C0.1.1 C0.1.2.1 dL_law_636 (by decide) (fun _ => ?_) (fun c9 => absurd (hp1.2.1.trans (hp2.2.1 rfl).symm) c9)
  refine W.widen (k := cells + 4) (n := slots + 24) (Nat.le_add_right _ 4) (Nat.le_add_right _ 24) ?_
  exact kk (hs_sl S) (u, r.2) y2 _ _ ls hp1.2.2 hp2.2.2 (hs_sl_I hI) (gs_swap hz) hl

