/-! THE LAW'S HELPERS -/
set_option maxHeartbeats 4000000 in
set_option maxRecDepth 100000 in
/-- ask -/
theorem h_ask (l : Launch) (hst : l.stackTraces = false) (G : gs_G) (q : Nat → Nat) (qo : Nat) (r : xr × (Nat → Int64)) (S : hs_S) (hS : rx S r.1) (hI : hs_I S) (x : Int32) (fx : Bool) : gh_i l yL_ask wsL_ask (gm_rm 11 4 24) G (hw G q qo) r [.ref (q 0), .int x, .int (bI fx), .ref qo] (fun res u => hq (sp_ask S x fx) res u) 4 24 := by
  refine gh_i.of (cc := cL_ask) (nL := 5) (ret := some .int) (by decide +kernel) rfl (Nat.le_of_ble_eq_true rfl) ?_
  intro p e s m args below meth c ls C0 hz hxz hxn hl
  have hl : lv_has ls 5 [(0, .ref (q 0)), (1, .int x), (2, .int (bI fx)), (3, .ref qo)] := hl
  refine lv_aload_n C0.1.1 C0.1.2.1 dL_ask_0 rfl (lv_at hl 3 rfl) ?_
  refine lv_iconst (v := nI 0) C0.1.1 C0.1.2.1 dL_ask_1 (by decide) ?_
  refine lv_aload_n C0.1.1 C0.1.2.1 dL_ask_2 rfl (lv_at hl 0 rfl) ?_
  refine lv_iload_n C0.1.1 C0.1.2.1 dL_ask_3 rfl (lv_at hl 1 rfl) ?_
  refine lv_iload_n C0.1.1 C0.1.2.1 dL_ask_4 rfl (lv_at hl 2 rfl) ?_
  refine gx_callVi (w := xw G q) (wr := [(qo, .inl (G.2.2.2, 1, .inr (.inl r.2)))]) C0.1 (k_ask l hst G q r.1 S hS hI x fx) (cwV 2 C0.1.2.2.2.2 gL_ask_X0_ask rfl rfl rfl (by decide +kernel) ⟨Nat.le_of_ble_eq_true rfl, Nat.le_of_ble_eq_true rfl⟩) (ci := 0) rfl rfl rfl hz hxz rfl hl.1 rfl (Nat.le_of_ble_eq_true rfl) dL_ask_5 ⟨Nat.le_of_ble_eq_true rfl, Nat.le_of_ble_eq_true rfl⟩ (fun E ce q9 H locs hE hz hce hcv hcl => ?_) (fun res u H locs hp hz => ?_)
  · obtain ⟨hk, rfl⟩ := ex_1 hE gd_ask
    refine gh_catch (E := xIA) C0 hxz (by decide +kernel) [] ⟨0, 10, 13, 13⟩ [] rfl (fun z hz9 => absurd hz9 List.not_mem_nil) (by decide) (by decide) (C0.1.2.2.2.2 (.classLink RL 13 "java/lang/IllegalArgumentException") (by decide +kernel)) hce hcv hcl ?_
    refine lv_astore (lv' := [(4, .ref q9), (0, .ref (q 0)), (1, .int x), (2, .int (bI fx)), (3, .ref qo)]) C0.1.1 C0.1.2.1 dL_ask_13 hl (by decide) rfl (fun ls hl => ?_)
    refine lv_iconst (v := nI 1) C0.1.1 C0.1.2.1 dL_ask_15 (by decide) ?_
    exact gh_reti (w := hw G q qo) r C0 hz (hq_x gd_ask hk (by decide) hS) (Nat.le_of_ble_eq_true rfl) (Nat.le_of_ble_eq_true rfl) dL_ask_16
  · refine lv_i2l (v := res.toInt64) C0.1.1 C0.1.2.1 dL_ask_8 rfl ?_
    refine gh_last C0.1.1 C0.1.2.1 hz dL_ask_9 (fun H locs hz => ?_)
    refine lv_goto (tgt := 17) C0.1.1 C0.1.2.1 dL_ask_10 (by decide) ?_
    refine lv_iconst (v := nI 0) C0.1.1 C0.1.2.1 dL_ask_17 (by decide) ?_
    exact gh_reti (w := hw G q qo) (u, vp_updL r.2 0 res.toInt64) C0 hz (hq_0 hp (by rw [hp.2.1])) (Nat.le_of_ble_eq_true rfl) (Nat.le_of_ble_eq_true rfl) dL_ask_18
set_option maxHeartbeats 4000000 in
set_option maxRecDepth 100000 in
/-- drop -/
theorem h_drop (l : Launch) (hst : l.stackTraces = false) (G : gs_G) (q : Nat → Nat) (qo : Nat) (r : xr × (Nat → Int64)) (S : hs_S) (hS : rx S r.1) (hI : hs_I S) (x : Int32) : gh_i l yL_drop wsL_drop (gm_rm 11 4 24) G (hw G q qo) r [.ref (q 0), .int x, .ref qo] (fun res u => hq (sp_drop S x) res u) 4 24 := by
  refine gh_i.of (cc := cL_drop) (nL := 4) (ret := some .int) (by decide +kernel) rfl (Nat.le_of_ble_eq_true rfl) ?_
  intro p e s m args below meth c ls C0 hz hxz hxn hl
  have hl : lv_has ls 4 [(0, .ref (q 0)), (1, .int x), (2, .ref qo)] := hl
  refine lv_aload_n C0.1.1 C0.1.2.1 dL_drop_0 rfl (lv_at hl 2 rfl) ?_
  refine lv_iconst (v := nI 0) C0.1.1 C0.1.2.1 dL_drop_1 (by decide) ?_
  refine lv_aload_n C0.1.1 C0.1.2.1 dL_drop_2 rfl (lv_at hl 0 rfl) ?_
  refine lv_iload_n C0.1.1 C0.1.2.1 dL_drop_3 rfl (lv_at hl 1 rfl) ?_
  refine gx_callVi (w := xw G q) (wr := [(qo, .inl (G.2.2.2, 1, .inr (.inl r.2)))]) C0.1 (k_drop l hst G q r.1 S hS hI x) (cwV 1 C0.1.2.2.2.2 gL_drop_X0_drop rfl rfl rfl (by decide +kernel) ⟨Nat.le_of_ble_eq_true rfl, Nat.le_of_ble_eq_true rfl⟩) (ci := 0) rfl rfl rfl hz hxz rfl hl.1 rfl (Nat.le_of_ble_eq_true rfl) dL_drop_4 ⟨Nat.le_of_ble_eq_true rfl, Nat.le_of_ble_eq_true rfl⟩ (fun E ce q9 H locs hE hz hce hcv hcl => ?_) (fun res u H locs hp hz => ?_)
  · obtain ⟨hk, rfl⟩ := ex_1 hE gd_drop
    refine gh_catch (E := xIA) C0 hxz (by decide +kernel) [] ⟨0, 9, 12, 13⟩ [] rfl (fun z hz9 => absurd hz9 List.not_mem_nil) (by decide) (by decide) (C0.1.2.2.2.2 (.classLink RL 13 "java/lang/IllegalArgumentException") (by decide +kernel)) hce hcv hcl ?_
    refine lv_astore_n (lv' := [(3, .ref q9), (0, .ref (q 0)), (1, .int x), (2, .ref qo)]) C0.1.1 C0.1.2.1 dL_drop_12 rfl hl (by decide) rfl (fun ls hl => ?_)
    refine lv_iconst (v := nI 1) C0.1.1 C0.1.2.1 dL_drop_13 (by decide) ?_
    exact gh_reti (w := hw G q qo) r C0 hz (hq_x gd_drop hk (by decide) hS) (Nat.le_of_ble_eq_true rfl) (Nat.le_of_ble_eq_true rfl) dL_drop_14
  · refine lv_i2l (v := res.toInt64) C0.1.1 C0.1.2.1 dL_drop_7 rfl ?_
    refine gh_last C0.1.1 C0.1.2.1 hz dL_drop_8 (fun H locs hz => ?_)
    refine lv_goto (tgt := 15) C0.1.1 C0.1.2.1 dL_drop_9 (by decide) ?_
    refine lv_iconst (v := nI 0) C0.1.1 C0.1.2.1 dL_drop_15 (by decide) ?_
    exact gh_reti (w := hw G q qo) (u, vp_updL r.2 0 res.toInt64) C0 hz (hq_0 hp (by rw [hp.2.1])) (Nat.le_of_ble_eq_true rfl) (Nat.le_of_ble_eq_true rfl) dL_drop_16
set_option maxHeartbeats 4000000 in
set_option maxRecDepth 100000 in
/-- resize -/
theorem h_resize (l : Launch) (hst : l.stackTraces = false) (G : gs_G) (q : Nat → Nat) (qo : Nat) (r : xr × (Nat → Int64)) (S : hs_S) (hS : rx S r.1) (hI : hs_I S) (x : Int32) (y : Int32) : gh_i l yL_resize wsL_resize (gm_rm 11 4 24) G (hw G q qo) r [.ref (q 0), .int x, .int y, .ref qo] (fun res u => hq (sp_resize S x y) res u) 4 24 := by
  refine gh_i.of (cc := cL_resize) (nL := 5) (ret := some .int) (by decide +kernel) rfl (Nat.le_of_ble_eq_true rfl) ?_
  intro p e s m args below meth c ls C0 hz hxz hxn hl
  have hl : lv_has ls 5 [(0, .ref (q 0)), (1, .int x), (2, .int y), (3, .ref qo)] := hl
  refine lv_aload_n C0.1.1 C0.1.2.1 dL_resize_0 rfl (lv_at hl 3 rfl) ?_
  refine lv_iconst (v := nI 0) C0.1.1 C0.1.2.1 dL_resize_1 (by decide) ?_
  refine lv_aload_n C0.1.1 C0.1.2.1 dL_resize_2 rfl (lv_at hl 0 rfl) ?_
  refine lv_iload_n C0.1.1 C0.1.2.1 dL_resize_3 rfl (lv_at hl 1 rfl) ?_
  refine lv_iload_n C0.1.1 C0.1.2.1 dL_resize_4 rfl (lv_at hl 2 rfl) ?_
  refine gx_callVi (w := xw G q) (wr := [(qo, .inl (G.2.2.2, 1, .inr (.inl r.2)))]) C0.1 (k_resize l hst G q r.1 S hS hI x y) (cwV 2 C0.1.2.2.2.2 gL_resize_X0_resize rfl rfl rfl (by decide +kernel) ⟨Nat.le_of_ble_eq_true rfl, Nat.le_of_ble_eq_true rfl⟩) (ci := 0) rfl rfl rfl hz hxz rfl hl.1 rfl (Nat.le_of_ble_eq_true rfl) dL_resize_5 ⟨Nat.le_of_ble_eq_true rfl, Nat.le_of_ble_eq_true rfl⟩ (fun E ce q9 H locs hE hz hce hcv hcl => ?_) (fun res u H locs hp hz => ?_)
  · obtain ⟨hk, rfl⟩ := ex_1 hE gd_resize
    refine gh_catch (E := xIA) C0 hxz (by decide +kernel) [] ⟨0, 17, 20, 13⟩ [] rfl (fun z hz9 => absurd hz9 List.not_mem_nil) (by decide) (by decide) (C0.1.2.2.2.2 (.classLink RL 13 "java/lang/IllegalArgumentException") (by decide +kernel)) hce hcv hcl ?_
    refine lv_astore (lv' := [(4, .ref q9), (0, .ref (q 0)), (1, .int x), (2, .int y), (3, .ref qo)]) C0.1.1 C0.1.2.1 dL_resize_20 hl (by decide) rfl (fun ls hl => ?_)
    refine lv_iconst (v := nI 1) C0.1.1 C0.1.2.1 dL_resize_22 (by decide) ?_
    exact gh_reti (w := hw G q qo) r C0 hz (hq_x gd_resize hk (by decide) hS) (Nat.le_of_ble_eq_true rfl) (Nat.le_of_ble_eq_true rfl) dL_resize_23
  · skip
    refine lv_if_eq (tgt := 15) C0.1.1 C0.1.2.1 dL_resize_8 (by decide) (fun c1 => ?_) (fun c1 => ?_)
    · skip
      refine lv_lconst (v := 0) C0.1.1 C0.1.2.1 dL_resize_15 rfl ?_
      refine gh_last C0.1.1 C0.1.2.1 hz dL_resize_16 (fun H locs hz => ?_)
      refine lv_goto (tgt := 24) C0.1.1 C0.1.2.1 dL_resize_17 (by decide) ?_
      refine lv_iconst (v := nI 0) C0.1.1 C0.1.2.1 dL_resize_24 (by decide) ?_
      exact gh_reti (w := hw G q qo) (u, vp_updL r.2 0 0) C0 hz (hq_0 hp (by rw [← hp.2.1, c1]; rfl)) (Nat.le_of_ble_eq_true rfl) (Nat.le_of_ble_eq_true rfl) dL_resize_25
    · skip
      have hb1 : (1 : Int64) = (sp_resize S x y).2.1.toInt64 := by
        rcases bl_resize hp.1 with z | z
        · exact absurd (hp.2.1.trans z) c1
        · rw [z]; rfl
      refine lv_lconst (v := 1) C0.1.1 C0.1.2.1 dL_resize_11 rfl ?_
      refine lv_goto (tgt := 16) C0.1.1 C0.1.2.1 dL_resize_12 (by decide) ?_
      refine gh_last C0.1.1 C0.1.2.1 hz dL_resize_16 (fun H locs hz => ?_)
      refine lv_goto (tgt := 24) C0.1.1 C0.1.2.1 dL_resize_17 (by decide) ?_
      refine lv_iconst (v := nI 0) C0.1.1 C0.1.2.1 dL_resize_24 (by decide) ?_
      exact gh_reti (w := hw G q qo) (u, vp_updL r.2 0 1) C0 hz (hq_0 hp hb1) (Nat.le_of_ble_eq_true rfl) (Nat.le_of_ble_eq_true rfl) dL_resize_25
set_option maxHeartbeats 4000000 in
set_option maxRecDepth 100000 in
/-- lock -/
theorem h_lock (l : Launch) (hst : l.stackTraces = false) (G : gs_G) (q : Nat → Nat) (qo : Nat) (r : xr × (Nat → Int64)) (S : hs_S) (hS : rx S r.1) (hI : hs_I S) (x : Int32) (v : Bool) : gh_i l yL_lock wsL_lock (gm_rm 11 4 24) G (hw G q qo) r [.ref (q 0), .int x, .int (bI v), .ref qo] (fun res u => hq (sp_lock S x v) res u) 4 24 := by
  refine gh_i.of (cc := cL_lock) (nL := 5) (ret := some .int) (by decide +kernel) rfl (Nat.le_of_ble_eq_true rfl) ?_
  intro p e s m args below meth c ls C0 hz hxz hxn hl
  have hl : lv_has ls 5 [(0, .ref (q 0)), (1, .int x), (2, .int (bI v)), (3, .ref qo)] := hl
  refine lv_aload_n C0.1.1 C0.1.2.1 dL_lock_0 rfl (lv_at hl 3 rfl) ?_
  refine lv_iconst (v := nI 0) C0.1.1 C0.1.2.1 dL_lock_1 (by decide) ?_
  refine lv_aload_n C0.1.1 C0.1.2.1 dL_lock_2 rfl (lv_at hl 0 rfl) ?_
  refine lv_iload_n C0.1.1 C0.1.2.1 dL_lock_3 rfl (lv_at hl 1 rfl) ?_
  refine lv_iload_n C0.1.1 C0.1.2.1 dL_lock_4 rfl (lv_at hl 2 rfl) ?_
  refine gx_callVi (w := xw G q) (wr := [(qo, .inl (G.2.2.2, 1, .inr (.inl r.2)))]) C0.1 (k_lock l hst G q r.1 S hS hI x v) (cwV 2 C0.1.2.2.2.2 gL_lock_X0_lock rfl rfl rfl (by decide +kernel) ⟨Nat.le_of_ble_eq_true rfl, Nat.le_of_ble_eq_true rfl⟩) (ci := 0) rfl rfl rfl hz hxz rfl hl.1 rfl (Nat.le_of_ble_eq_true rfl) dL_lock_5 ⟨Nat.le_of_ble_eq_true rfl, Nat.le_of_ble_eq_true rfl⟩ (fun E ce q9 H locs hE hz hce hcv hcl => ?_) (fun res u H locs hp hz => ?_)
  · rcases ex_2 hE gd_lock with ⟨hk, rfl⟩ | ⟨hk, rfl⟩
    · skip
      refine gh_catch (E := xIA) C0 hxz (by decide +kernel) [] ⟨0, 17, 20, 13⟩ [⟨0, 17, 24, 27⟩] rfl (fun z hz9 => absurd hz9 List.not_mem_nil) (by decide) (by decide) (C0.1.2.2.2.2 (.classLink RL 13 "java/lang/IllegalArgumentException") (by decide +kernel)) hce hcv hcl ?_
      refine lv_astore (lv' := [(4, .ref q9), (0, .ref (q 0)), (1, .int x), (2, .int (bI v)), (3, .ref qo)]) C0.1.1 C0.1.2.1 dL_lock_20 hl (by decide) rfl (fun ls hl => ?_)
      refine lv_iconst (v := nI 1) C0.1.1 C0.1.2.1 dL_lock_22 (by decide) ?_
      exact gh_reti (w := hw G q qo) r C0 hz (hq_x gd_lock hk (by decide) hS) (Nat.le_of_ble_eq_true rfl) (Nat.le_of_ble_eq_true rfl) dL_lock_23
    · skip
      refine gh_catch (E := xIS) C0 hxz (by decide +kernel) [⟨0, 17, 20, 13⟩] ⟨0, 17, 24, 27⟩ [] rfl (fun z hz9 => by rw [List.mem_singleton.mp hz9]; exact Or.inr ⟨by decide, _, C0.1.2.2.2.2 (.classLink RL 13 "java/lang/IllegalArgumentException") (by decide +kernel), hxn.1⟩) (by decide) (by decide) (C0.1.2.2.2.2 (.classLink RL 27 "java/lang/IllegalStateException") (by decide +kernel)) hce hcv hcl ?_
      refine lv_astore (lv' := [(4, .ref q9), (0, .ref (q 0)), (1, .int x), (2, .int (bI v)), (3, .ref qo)]) C0.1.1 C0.1.2.1 dL_lock_24 hl (by decide) rfl (fun ls hl => ?_)
      refine lv_iconst (v := nI 2) C0.1.1 C0.1.2.1 dL_lock_26 (by decide) ?_
      exact gh_reti (w := hw G q qo) r C0 hz (hq_x gd_lock hk (by decide) hS) (Nat.le_of_ble_eq_true rfl) (Nat.le_of_ble_eq_true rfl) dL_lock_27
  · skip
    refine lv_if_eq (tgt := 15) C0.1.1 C0.1.2.1 dL_lock_8 (by decide) (fun c1 => ?_) (fun c1 => ?_)
    · skip
      refine lv_lconst (v := 0) C0.1.1 C0.1.2.1 dL_lock_15 rfl ?_
      refine gh_last C0.1.1 C0.1.2.1 hz dL_lock_16 (fun H locs hz => ?_)
      refine lv_goto (tgt := 28) C0.1.1 C0.1.2.1 dL_lock_17 (by decide) ?_
      refine lv_iconst (v := nI 0) C0.1.1 C0.1.2.1 dL_lock_28 (by decide) ?_
      exact gh_reti (w := hw G q qo) (u, vp_updL r.2 0 0) C0 hz (hq_0 hp (by rw [← hp.2.1, c1]; rfl)) (Nat.le_of_ble_eq_true rfl) (Nat.le_of_ble_eq_true rfl) dL_lock_29
    · skip
      have hb1 : (1 : Int64) = (sp_lock S x v).2.1.toInt64 := by
        rcases bl_lock hp.1 with z | z
        · exact absurd (hp.2.1.trans z) c1
        · rw [z]; rfl
      refine lv_lconst (v := 1) C0.1.1 C0.1.2.1 dL_lock_11 rfl ?_
      refine lv_goto (tgt := 16) C0.1.1 C0.1.2.1 dL_lock_12 (by decide) ?_
      refine gh_last C0.1.1 C0.1.2.1 hz dL_lock_16 (fun H locs hz => ?_)
      refine lv_goto (tgt := 28) C0.1.1 C0.1.2.1 dL_lock_17 (by decide) ?_
      refine lv_iconst (v := nI 0) C0.1.1 C0.1.2.1 dL_lock_28 (by decide) ?_
      exact gh_reti (w := hw G q qo) (u, vp_updL r.2 0 1) C0 hz (hq_0 hp hb1) (Nat.le_of_ble_eq_true rfl) (Nat.le_of_ble_eq_true rfl) dL_lock_29
set_option maxHeartbeats 4000000 in
set_option maxRecDepth 100000 in
/-- losable -/
theorem h_losable (l : Launch) (hst : l.stackTraces = false) (G : gs_G) (q : Nat → Nat) (qo : Nat) (r : xr × (Nat → Int64)) (S : hs_S) (hS : rx S r.1) (hI : hs_I S) (x : Int32) (v : Bool) : gh_i l yL_losable wsL_losable (gm_rm 11 4 24) G (hw G q qo) r [.ref (q 0), .int x, .int (bI v), .ref qo] (fun res u => hq (sp_losable S x v) res u) 4 24 := by
  refine gh_i.of (cc := cL_losable) (nL := 5) (ret := some .int) (by decide +kernel) rfl (Nat.le_of_ble_eq_true rfl) ?_
  intro p e s m args below meth c ls C0 hz hxz hxn hl
  have hl : lv_has ls 5 [(0, .ref (q 0)), (1, .int x), (2, .int (bI v)), (3, .ref qo)] := hl
  refine lv_aload_n C0.1.1 C0.1.2.1 dL_losable_0 rfl (lv_at hl 3 rfl) ?_
  refine lv_iconst (v := nI 0) C0.1.1 C0.1.2.1 dL_losable_1 (by decide) ?_
  refine lv_aload_n C0.1.1 C0.1.2.1 dL_losable_2 rfl (lv_at hl 0 rfl) ?_
  refine lv_iload_n C0.1.1 C0.1.2.1 dL_losable_3 rfl (lv_at hl 1 rfl) ?_
  refine lv_iload_n C0.1.1 C0.1.2.1 dL_losable_4 rfl (lv_at hl 2 rfl) ?_
  refine gx_callVi (w := xw G q) (wr := [(qo, .inl (G.2.2.2, 1, .inr (.inl r.2)))]) C0.1 (k_losable l hst G q r.1 S hS hI x v) (cwV 2 C0.1.2.2.2.2 gL_losable_X0_losable rfl rfl rfl (by decide +kernel) ⟨Nat.le_of_ble_eq_true rfl, Nat.le_of_ble_eq_true rfl⟩) (ci := 0) rfl rfl rfl hz hxz rfl hl.1 rfl (Nat.le_of_ble_eq_true rfl) dL_losable_5 ⟨Nat.le_of_ble_eq_true rfl, Nat.le_of_ble_eq_true rfl⟩ (fun E ce q9 H locs hE hz hce hcv hcl => ?_) (fun res u H locs hp hz => ?_)
  · rcases ex_2 hE gd_losable with ⟨hk, rfl⟩ | ⟨hk, rfl⟩
    · skip
      refine gh_catch (E := xIA) C0 hxz (by decide +kernel) [] ⟨0, 17, 20, 13⟩ [⟨0, 17, 24, 27⟩] rfl (fun z hz9 => absurd hz9 List.not_mem_nil) (by decide) (by decide) (C0.1.2.2.2.2 (.classLink RL 13 "java/lang/IllegalArgumentException") (by decide +kernel)) hce hcv hcl ?_
      refine lv_astore (lv' := [(4, .ref q9), (0, .ref (q 0)), (1, .int x), (2, .int (bI v)), (3, .ref qo)]) C0.1.1 C0.1.2.1 dL_losable_20 hl (by decide) rfl (fun ls hl => ?_)
      refine lv_iconst (v := nI 1) C0.1.1 C0.1.2.1 dL_losable_22 (by decide) ?_
      exact gh_reti (w := hw G q qo) r C0 hz (hq_x gd_losable hk (by decide) hS) (Nat.le_of_ble_eq_true rfl) (Nat.le_of_ble_eq_true rfl) dL_losable_23
    · skip
      refine gh_catch (E := xIS) C0 hxz (by decide +kernel) [⟨0, 17, 20, 13⟩] ⟨0, 17, 24, 27⟩ [] rfl (fun z hz9 => by rw [List.mem_singleton.mp hz9]; exact Or.inr ⟨by decide, _, C0.1.2.2.2.2 (.classLink RL 13 "java/lang/IllegalArgumentException") (by decide +kernel), hxn.1⟩) (by decide) (by decide) (C0.1.2.2.2.2 (.classLink RL 27 "java/lang/IllegalStateException") (by decide +kernel)) hce hcv hcl ?_
      refine lv_astore (lv' := [(4, .ref q9), (0, .ref (q 0)), (1, .int x), (2, .int (bI v)), (3, .ref qo)]) C0.1.1 C0.1.2.1 dL_losable_24 hl (by decide) rfl (fun ls hl => ?_)
      refine lv_iconst (v := nI 2) C0.1.1 C0.1.2.1 dL_losable_26 (by decide) ?_
      exact gh_reti (w := hw G q qo) r C0 hz (hq_x gd_losable hk (by decide) hS) (Nat.le_of_ble_eq_true rfl) (Nat.le_of_ble_eq_true rfl) dL_losable_27
  · skip
    refine lv_if_eq (tgt := 15) C0.1.1 C0.1.2.1 dL_losable_8 (by decide) (fun c1 => ?_) (fun c1 => ?_)
    · skip
      refine lv_lconst (v := 0) C0.1.1 C0.1.2.1 dL_losable_15 rfl ?_
      refine gh_last C0.1.1 C0.1.2.1 hz dL_losable_16 (fun H locs hz => ?_)
      refine lv_goto (tgt := 28) C0.1.1 C0.1.2.1 dL_losable_17 (by decide) ?_
      refine lv_iconst (v := nI 0) C0.1.1 C0.1.2.1 dL_losable_28 (by decide) ?_
      exact gh_reti (w := hw G q qo) (u, vp_updL r.2 0 0) C0 hz (hq_0 hp (by rw [← hp.2.1, c1]; rfl)) (Nat.le_of_ble_eq_true rfl) (Nat.le_of_ble_eq_true rfl) dL_losable_29
    · skip
      have hb1 : (1 : Int64) = (sp_losable S x v).2.1.toInt64 := by
        rcases bl_losable hp.1 with z | z
        · exact absurd (hp.2.1.trans z) c1
        · rw [z]; rfl
      refine lv_lconst (v := 1) C0.1.1 C0.1.2.1 dL_losable_11 rfl ?_
      refine lv_goto (tgt := 16) C0.1.1 C0.1.2.1 dL_losable_12 (by decide) ?_
      refine gh_last C0.1.1 C0.1.2.1 hz dL_losable_16 (fun H locs hz => ?_)
      refine lv_goto (tgt := 28) C0.1.1 C0.1.2.1 dL_losable_17 (by decide) ?_
      refine lv_iconst (v := nI 0) C0.1.1 C0.1.2.1 dL_losable_28 (by decide) ?_
      exact gh_reti (w := hw G q qo) (u, vp_updL r.2 0 1) C0 hz (hq_0 hp hb1) (Nat.le_of_ble_eq_true rfl) (Nat.le_of_ble_eq_true rfl) dL_losable_29
set_option maxHeartbeats 4000000 in
set_option maxRecDepth 100000 in
/-- lose -/
theorem h_lose (l : Launch) (hst : l.stackTraces = false) (G : gs_G) (q : Nat → Nat) (qo : Nat) (r : xr × (Nat → Int64)) (S : hs_S) (hS : rx S r.1) (hI : hs_I S) (x : Int32) : gh_i l yL_lose wsL_lose (gm_rm 11 4 24) G (hw G q qo) r [.ref (q 0), .int x, .ref qo] (fun res u => hq (sp_lose S x) res u) 4 24 := by
  refine gh_i.of (cc := cL_lose) (nL := 4) (ret := some .int) (by decide +kernel) rfl (Nat.le_of_ble_eq_true rfl) ?_
  intro p e s m args below meth c ls C0 hz hxz hxn hl
  have hl : lv_has ls 4 [(0, .ref (q 0)), (1, .int x), (2, .ref qo)] := hl
  refine lv_aload_n C0.1.1 C0.1.2.1 dL_lose_0 rfl (lv_at hl 2 rfl) ?_
  refine lv_iconst (v := nI 0) C0.1.1 C0.1.2.1 dL_lose_1 (by decide) ?_
  refine lv_aload_n C0.1.1 C0.1.2.1 dL_lose_2 rfl (lv_at hl 0 rfl) ?_
  refine lv_iload_n C0.1.1 C0.1.2.1 dL_lose_3 rfl (lv_at hl 1 rfl) ?_
  refine gx_callVi (w := xw G q) (wr := [(qo, .inl (G.2.2.2, 1, .inr (.inl r.2)))]) C0.1 (k_lose l hst G q r.1 S hS hI x) (cwV 1 C0.1.2.2.2.2 gL_lose_X0_lose rfl rfl rfl (by decide +kernel) ⟨Nat.le_of_ble_eq_true rfl, Nat.le_of_ble_eq_true rfl⟩) (ci := 0) rfl rfl rfl hz hxz rfl hl.1 rfl (Nat.le_of_ble_eq_true rfl) dL_lose_4 ⟨Nat.le_of_ble_eq_true rfl, Nat.le_of_ble_eq_true rfl⟩ (fun E ce q9 H locs hE hz hce hcv hcl => ?_) (fun res u H locs hp hz => ?_)
  · rcases ex_2 hE gd_lose with ⟨hk, rfl⟩ | ⟨hk, rfl⟩
    · skip
      refine gh_catch (E := xIA) C0 hxz (by decide +kernel) [] ⟨0, 16, 19, 13⟩ [⟨0, 16, 22, 27⟩] rfl (fun z hz9 => absurd hz9 List.not_mem_nil) (by decide) (by decide) (C0.1.2.2.2.2 (.classLink RL 13 "java/lang/IllegalArgumentException") (by decide +kernel)) hce hcv hcl ?_
      refine lv_astore_n (lv' := [(3, .ref q9), (0, .ref (q 0)), (1, .int x), (2, .ref qo)]) C0.1.1 C0.1.2.1 dL_lose_19 rfl hl (by decide) rfl (fun ls hl => ?_)
      refine lv_iconst (v := nI 1) C0.1.1 C0.1.2.1 dL_lose_20 (by decide) ?_
      exact gh_reti (w := hw G q qo) r C0 hz (hq_x gd_lose hk (by decide) hS) (Nat.le_of_ble_eq_true rfl) (Nat.le_of_ble_eq_true rfl) dL_lose_21
    · skip
      refine gh_catch (E := xIS) C0 hxz (by decide +kernel) [⟨0, 16, 19, 13⟩] ⟨0, 16, 22, 27⟩ [] rfl (fun z hz9 => by rw [List.mem_singleton.mp hz9]; exact Or.inr ⟨by decide, _, C0.1.2.2.2.2 (.classLink RL 13 "java/lang/IllegalArgumentException") (by decide +kernel), hxn.1⟩) (by decide) (by decide) (C0.1.2.2.2.2 (.classLink RL 27 "java/lang/IllegalStateException") (by decide +kernel)) hce hcv hcl ?_
      refine lv_astore_n (lv' := [(3, .ref q9), (0, .ref (q 0)), (1, .int x), (2, .ref qo)]) C0.1.1 C0.1.2.1 dL_lose_22 rfl hl (by decide) rfl (fun ls hl => ?_)
      refine lv_iconst (v := nI 2) C0.1.1 C0.1.2.1 dL_lose_23 (by decide) ?_
      exact gh_reti (w := hw G q qo) r C0 hz (hq_x gd_lose hk (by decide) hS) (Nat.le_of_ble_eq_true rfl) (Nat.le_of_ble_eq_true rfl) dL_lose_24
  · skip
    refine lv_if_eq (tgt := 14) C0.1.1 C0.1.2.1 dL_lose_7 (by decide) (fun c1 => ?_) (fun c1 => ?_)
    · skip
      refine lv_lconst (v := 0) C0.1.1 C0.1.2.1 dL_lose_14 rfl ?_
      refine gh_last C0.1.1 C0.1.2.1 hz dL_lose_15 (fun H locs hz => ?_)
      refine lv_goto (tgt := 25) C0.1.1 C0.1.2.1 dL_lose_16 (by decide) ?_
      refine lv_iconst (v := nI 0) C0.1.1 C0.1.2.1 dL_lose_25 (by decide) ?_
      exact gh_reti (w := hw G q qo) (u, vp_updL r.2 0 0) C0 hz (hq_0 hp (by rw [← hp.2.1, c1]; rfl)) (Nat.le_of_ble_eq_true rfl) (Nat.le_of_ble_eq_true rfl) dL_lose_26
    · skip
      have hb1 : (1 : Int64) = (sp_lose S x).2.1.toInt64 := by
        rcases bl_lose hp.1 with z | z
        · exact absurd (hp.2.1.trans z) c1
        · rw [z]; rfl
      refine lv_lconst (v := 1) C0.1.1 C0.1.2.1 dL_lose_10 rfl ?_
      refine lv_goto (tgt := 15) C0.1.1 C0.1.2.1 dL_lose_11 (by decide) ?_
      refine gh_last C0.1.1 C0.1.2.1 hz dL_lose_15 (fun H locs hz => ?_)
      refine lv_goto (tgt := 25) C0.1.1 C0.1.2.1 dL_lose_16 (by decide) ?_
      refine lv_iconst (v := nI 0) C0.1.1 C0.1.2.1 dL_lose_25 (by decide) ?_
      exact gh_reti (w := hw G q qo) (u, vp_updL r.2 0 1) C0 hz (hq_0 hp hb1) (Nat.le_of_ble_eq_true rfl) (Nat.le_of_ble_eq_true rfl) dL_lose_26
set_option maxHeartbeats 4000000 in
set_option maxRecDepth 100000 in
/-- lift -/
theorem h_lift (l : Launch) (hst : l.stackTraces = false) (G : gs_G) (q : Nat → Nat) (qo : Nat) (r : xr × (Nat → Int64)) (S : hs_S) (hS : rx S r.1) (hI : hs_I S) (x : Int32) : gh_i l yL_lift wsL_lift (gm_rm 11 4 24) G (hw G q qo) r [.ref (q 0), .int x, .ref qo] (fun res u => hq (sp_lift S x) res u) 4 24 := by
  refine gh_i.of (cc := cL_lift) (nL := 4) (ret := some .int) (by decide +kernel) rfl (Nat.le_of_ble_eq_true rfl) ?_
  intro p e s m args below meth c ls C0 hz hxz hxn hl
  have hl : lv_has ls 4 [(0, .ref (q 0)), (1, .int x), (2, .ref qo)] := hl
  refine lv_aload_n C0.1.1 C0.1.2.1 dL_lift_0 rfl (lv_at hl 2 rfl) ?_
  refine lv_iconst (v := nI 0) C0.1.1 C0.1.2.1 dL_lift_1 (by decide) ?_
  refine lv_aload_n C0.1.1 C0.1.2.1 dL_lift_2 rfl (lv_at hl 0 rfl) ?_
  refine lv_iload_n C0.1.1 C0.1.2.1 dL_lift_3 rfl (lv_at hl 1 rfl) ?_
  refine gx_callVi (w := xw G q) (wr := [(qo, .inl (G.2.2.2, 1, .inr (.inl r.2)))]) C0.1 (k_lift l hst G q r.1 S hS hI x) (cwV 1 C0.1.2.2.2.2 gL_lift_X0_lift rfl rfl rfl (by decide +kernel) ⟨Nat.le_of_ble_eq_true rfl, Nat.le_of_ble_eq_true rfl⟩) (ci := 0) rfl rfl rfl hz hxz rfl hl.1 rfl (Nat.le_of_ble_eq_true rfl) dL_lift_4 ⟨Nat.le_of_ble_eq_true rfl, Nat.le_of_ble_eq_true rfl⟩ (fun E ce q9 H locs hE hz hce hcv hcl => ?_) (fun res u H locs hp hz => ?_)
  · rcases ex_2 hE gd_lift with ⟨hk, rfl⟩ | ⟨hk, rfl⟩
    · skip
      refine gh_catch (E := xIA) C0 hxz (by decide +kernel) [] ⟨0, 9, 12, 13⟩ [⟨0, 9, 15, 27⟩] rfl (fun z hz9 => absurd hz9 List.not_mem_nil) (by decide) (by decide) (C0.1.2.2.2.2 (.classLink RL 13 "java/lang/IllegalArgumentException") (by decide +kernel)) hce hcv hcl ?_
      refine lv_astore_n (lv' := [(3, .ref q9), (0, .ref (q 0)), (1, .int x), (2, .ref qo)]) C0.1.1 C0.1.2.1 dL_lift_12 rfl hl (by decide) rfl (fun ls hl => ?_)
      refine lv_iconst (v := nI 1) C0.1.1 C0.1.2.1 dL_lift_13 (by decide) ?_
      exact gh_reti (w := hw G q qo) r C0 hz (hq_x gd_lift hk (by decide) hS) (Nat.le_of_ble_eq_true rfl) (Nat.le_of_ble_eq_true rfl) dL_lift_14
    · skip
      refine gh_catch (E := xIS) C0 hxz (by decide +kernel) [⟨0, 9, 12, 13⟩] ⟨0, 9, 15, 27⟩ [] rfl (fun z hz9 => by rw [List.mem_singleton.mp hz9]; exact Or.inr ⟨by decide, _, C0.1.2.2.2.2 (.classLink RL 13 "java/lang/IllegalArgumentException") (by decide +kernel), hxn.1⟩) (by decide) (by decide) (C0.1.2.2.2.2 (.classLink RL 27 "java/lang/IllegalStateException") (by decide +kernel)) hce hcv hcl ?_
      refine lv_astore_n (lv' := [(3, .ref q9), (0, .ref (q 0)), (1, .int x), (2, .ref qo)]) C0.1.1 C0.1.2.1 dL_lift_15 rfl hl (by decide) rfl (fun ls hl => ?_)
      refine lv_iconst (v := nI 2) C0.1.1 C0.1.2.1 dL_lift_16 (by decide) ?_
      exact gh_reti (w := hw G q qo) r C0 hz (hq_x gd_lift hk (by decide) hS) (Nat.le_of_ble_eq_true rfl) (Nat.le_of_ble_eq_true rfl) dL_lift_17
  · refine lv_i2l (v := res.toInt64) C0.1.1 C0.1.2.1 dL_lift_7 rfl ?_
    refine gh_last C0.1.1 C0.1.2.1 hz dL_lift_8 (fun H locs hz => ?_)
    refine lv_goto (tgt := 18) C0.1.1 C0.1.2.1 dL_lift_9 (by decide) ?_
    refine lv_iconst (v := nI 0) C0.1.1 C0.1.2.1 dL_lift_18 (by decide) ?_
    exact gh_reti (w := hw G q qo) (u, vp_updL r.2 0 res.toInt64) C0 hz (hq_0 hp (by rw [hp.2.1])) (Nat.le_of_ble_eq_true rfl) (Nat.le_of_ble_eq_true rfl) dL_lift_19
set_option maxHeartbeats 4000000 in
set_option maxRecDepth 100000 in
/-- clear -/
theorem h_clear (l : Launch) (hst : l.stackTraces = false) (G : gs_G) (q : Nat → Nat) (qo : Nat) (r : xr × (Nat → Int64)) (S : hs_S) (hS : rx S r.1) (hI : hs_I S) (x : Int32) : gh_i l yL_clear wsL_clear (gm_rm 11 4 24) G (hw G q qo) r [.ref (q 0), .int x, .ref qo] (fun res u => hq (sp_clear S x) res u) 4 24 := by
  refine gh_i.of (cc := cL_clear) (nL := 4) (ret := some .int) (by decide +kernel) rfl (Nat.le_of_ble_eq_true rfl) ?_
  intro p e s m args below meth c ls C0 hz hxz hxn hl
  have hl : lv_has ls 4 [(0, .ref (q 0)), (1, .int x), (2, .ref qo)] := hl
  refine lv_aload_n C0.1.1 C0.1.2.1 dL_clear_0 rfl (lv_at hl 2 rfl) ?_
  refine lv_iconst (v := nI 0) C0.1.1 C0.1.2.1 dL_clear_1 (by decide) ?_
  refine lv_aload_n C0.1.1 C0.1.2.1 dL_clear_2 rfl (lv_at hl 0 rfl) ?_
  refine lv_iload_n C0.1.1 C0.1.2.1 dL_clear_3 rfl (lv_at hl 1 rfl) ?_
  refine gx_callVi (w := xw G q) (wr := [(qo, .inl (G.2.2.2, 1, .inr (.inl r.2)))]) C0.1 (k_clear l hst G q r.1 S hS hI x) (cwV 1 C0.1.2.2.2.2 gL_clear_X0_clear rfl rfl rfl (by decide +kernel) ⟨Nat.le_of_ble_eq_true rfl, Nat.le_of_ble_eq_true rfl⟩) (ci := 0) rfl rfl rfl hz hxz rfl hl.1 rfl (Nat.le_of_ble_eq_true rfl) dL_clear_4 ⟨Nat.le_of_ble_eq_true rfl, Nat.le_of_ble_eq_true rfl⟩ (fun E ce q9 H locs hE hz hce hcv hcl => ?_) (fun res u H locs hp hz => ?_)
  · obtain ⟨hk, rfl⟩ := ex_1 hE gd_clear
    refine gh_catch (E := xIA) C0 hxz (by decide +kernel) [] ⟨0, 9, 12, 13⟩ [] rfl (fun z hz9 => absurd hz9 List.not_mem_nil) (by decide) (by decide) (C0.1.2.2.2.2 (.classLink RL 13 "java/lang/IllegalArgumentException") (by decide +kernel)) hce hcv hcl ?_
    refine lv_astore_n (lv' := [(3, .ref q9), (0, .ref (q 0)), (1, .int x), (2, .ref qo)]) C0.1.1 C0.1.2.1 dL_clear_12 rfl hl (by decide) rfl (fun ls hl => ?_)
    refine lv_iconst (v := nI 1) C0.1.1 C0.1.2.1 dL_clear_13 (by decide) ?_
    exact gh_reti (w := hw G q qo) r C0 hz (hq_x gd_clear hk (by decide) hS) (Nat.le_of_ble_eq_true rfl) (Nat.le_of_ble_eq_true rfl) dL_clear_14
  · refine lv_i2l (v := res.toInt64) C0.1.1 C0.1.2.1 dL_clear_7 rfl ?_
    refine gh_last C0.1.1 C0.1.2.1 hz dL_clear_8 (fun H locs hz => ?_)
    refine lv_goto (tgt := 15) C0.1.1 C0.1.2.1 dL_clear_9 (by decide) ?_
    refine lv_iconst (v := nI 0) C0.1.1 C0.1.2.1 dL_clear_15 (by decide) ?_
    exact gh_reti (w := hw G q qo) (u, vp_updL r.2 0 res.toInt64) C0 hz (hq_0 hp (by rw [hp.2.1])) (Nat.le_of_ble_eq_true rfl) (Nat.le_of_ble_eq_true rfl) dL_clear_16
set_option maxHeartbeats 4000000 in
set_option maxRecDepth 100000 in
/-- where -/
theorem h_where (l : Launch) (hst : l.stackTraces = false) (G : gs_G) (q : Nat → Nat) (qo : Nat) (r : xr × (Nat → Int64)) (S : hs_S) (hS : rx S r.1) (hI : hs_I S) (x : Int32) : gh_i l yL_where wsL_where (gm_rm 11 4 24) G (hw G q qo) r [.ref (q 0), .int x, .ref qo] (fun res u => hq (sp_where S x) res u) 4 24 := by
  refine gh_i.of (cc := cL_where) (nL := 4) (ret := some .int) (by decide +kernel) rfl (Nat.le_of_ble_eq_true rfl) ?_
  intro p e s m args below meth c ls C0 hz hxz hxn hl
  have hl : lv_has ls 4 [(0, .ref (q 0)), (1, .int x), (2, .ref qo)] := hl
  refine lv_aload_n C0.1.1 C0.1.2.1 dL_where_0 rfl (lv_at hl 2 rfl) ?_
  refine lv_iconst (v := nI 0) C0.1.1 C0.1.2.1 dL_where_1 (by decide) ?_
  refine lv_aload_n C0.1.1 C0.1.2.1 dL_where_2 rfl (lv_at hl 0 rfl) ?_
  refine lv_iload_n C0.1.1 C0.1.2.1 dL_where_3 rfl (lv_at hl 1 rfl) ?_
  refine gx_callVi (w := xw G q) (wr := [(qo, .inl (G.2.2.2, 1, .inr (.inl r.2)))]) C0.1 (k_where l hst G q r.1 S hS hI x) (cwV 1 C0.1.2.2.2.2 gL_where_X0_where rfl rfl rfl (by decide +kernel) ⟨Nat.le_of_ble_eq_true rfl, Nat.le_of_ble_eq_true rfl⟩) (ci := 0) rfl rfl rfl hz hxz rfl hl.1 rfl (Nat.le_of_ble_eq_true rfl) dL_where_4 ⟨Nat.le_of_ble_eq_true rfl, Nat.le_of_ble_eq_true rfl⟩ (fun E ce q9 H locs hE hz hce hcv hcl => ?_) (fun res u H locs hp hz => ?_)
  · obtain ⟨hk, rfl⟩ := ex_1 hE gd_where
    refine gh_catch (E := xIA) C0 hxz (by decide +kernel) [] ⟨0, 9, 12, 13⟩ [] rfl (fun z hz9 => absurd hz9 List.not_mem_nil) (by decide) (by decide) (C0.1.2.2.2.2 (.classLink RL 13 "java/lang/IllegalArgumentException") (by decide +kernel)) hce hcv hcl ?_
    refine lv_astore_n (lv' := [(3, .ref q9), (0, .ref (q 0)), (1, .int x), (2, .ref qo)]) C0.1.1 C0.1.2.1 dL_where_12 rfl hl (by decide) rfl (fun ls hl => ?_)
    refine lv_iconst (v := nI 1) C0.1.1 C0.1.2.1 dL_where_13 (by decide) ?_
    exact gh_reti (w := hw G q qo) r C0 hz (hq_x gd_where hk (by decide) hS) (Nat.le_of_ble_eq_true rfl) (Nat.le_of_ble_eq_true rfl) dL_where_14
  · refine lv_i2l (v := res.toInt64) C0.1.1 C0.1.2.1 dL_where_7 rfl ?_
    refine gh_last C0.1.1 C0.1.2.1 hz dL_where_8 (fun H locs hz => ?_)
    refine lv_goto (tgt := 15) C0.1.1 C0.1.2.1 dL_where_9 (by decide) ?_
    refine lv_iconst (v := nI 0) C0.1.1 C0.1.2.1 dL_where_15 (by decide) ?_
    exact gh_reti (w := hw G q qo) (u, vp_updL r.2 0 res.toInt64) C0 hz (hq_0 hp (by rw [hp.2.1])) (Nat.le_of_ble_eq_true rfl) (Nat.le_of_ble_eq_true rfl) dL_where_16
set_option maxHeartbeats 4000000 in
set_option maxRecDepth 100000 in
/-- size -/
theorem h_size (l : Launch) (hst : l.stackTraces = false) (G : gs_G) (q : Nat → Nat) (qo : Nat) (r : xr × (Nat → Int64)) (S : hs_S) (hS : rx S r.1) (hI : hs_I S) (x : Int32) : gh_i l yL_size wsL_size (gm_rm 11 4 24) G (hw G q qo) r [.ref (q 0), .int x, .ref qo] (fun res u => hq (sp_size S x) res u) 4 24 := by
  refine gh_i.of (cc := cL_size) (nL := 4) (ret := some .int) (by decide +kernel) rfl (Nat.le_of_ble_eq_true rfl) ?_
  intro p e s m args below meth c ls C0 hz hxz hxn hl
  have hl : lv_has ls 4 [(0, .ref (q 0)), (1, .int x), (2, .ref qo)] := hl
  refine lv_aload_n C0.1.1 C0.1.2.1 dL_size_0 rfl (lv_at hl 2 rfl) ?_
  refine lv_iconst (v := nI 0) C0.1.1 C0.1.2.1 dL_size_1 (by decide) ?_
  refine lv_aload_n C0.1.1 C0.1.2.1 dL_size_2 rfl (lv_at hl 0 rfl) ?_
  refine lv_iload_n C0.1.1 C0.1.2.1 dL_size_3 rfl (lv_at hl 1 rfl) ?_
  refine gx_callVi (w := xw G q) (wr := [(qo, .inl (G.2.2.2, 1, .inr (.inl r.2)))]) C0.1 (k_size l hst G q r.1 S hS hI x) (cwV 1 C0.1.2.2.2.2 gL_size_X0_size rfl rfl rfl (by decide +kernel) ⟨Nat.le_of_ble_eq_true rfl, Nat.le_of_ble_eq_true rfl⟩) (ci := 0) rfl rfl rfl hz hxz rfl hl.1 rfl (Nat.le_of_ble_eq_true rfl) dL_size_4 ⟨Nat.le_of_ble_eq_true rfl, Nat.le_of_ble_eq_true rfl⟩ (fun E ce q9 H locs hE hz hce hcv hcl => ?_) (fun res u H locs hp hz => ?_)
  · obtain ⟨hk, rfl⟩ := ex_1 hE gd_size
    refine gh_catch (E := xIA) C0 hxz (by decide +kernel) [] ⟨0, 9, 12, 13⟩ [] rfl (fun z hz9 => absurd hz9 List.not_mem_nil) (by decide) (by decide) (C0.1.2.2.2.2 (.classLink RL 13 "java/lang/IllegalArgumentException") (by decide +kernel)) hce hcv hcl ?_
    refine lv_astore_n (lv' := [(3, .ref q9), (0, .ref (q 0)), (1, .int x), (2, .ref qo)]) C0.1.1 C0.1.2.1 dL_size_12 rfl hl (by decide) rfl (fun ls hl => ?_)
    refine lv_iconst (v := nI 1) C0.1.1 C0.1.2.1 dL_size_13 (by decide) ?_
    exact gh_reti (w := hw G q qo) r C0 hz (hq_x gd_size hk (by decide) hS) (Nat.le_of_ble_eq_true rfl) (Nat.le_of_ble_eq_true rfl) dL_size_14
  · refine lv_i2l (v := res.toInt64) C0.1.1 C0.1.2.1 dL_size_7 rfl ?_
    refine gh_last C0.1.1 C0.1.2.1 hz dL_size_8 (fun H locs hz => ?_)
    refine lv_goto (tgt := 15) C0.1.1 C0.1.2.1 dL_size_9 (by decide) ?_
    refine lv_iconst (v := nI 0) C0.1.1 C0.1.2.1 dL_size_15 (by decide) ?_
    exact gh_reti (w := hw G q qo) (u, vp_updL r.2 0 res.toInt64) C0 hz (hq_0 hp (by rw [hp.2.1])) (Nat.le_of_ble_eq_true rfl) (Nat.le_of_ble_eq_true rfl) dL_size_16
set_option maxHeartbeats 4000000 in
set_option maxRecDepth 100000 in
/-- put -/
theorem h_put (l : Launch) (hst : l.stackTraces = false) (G : gs_G) (q : Nat → Nat) (qo : Nat) (r : xr × (Nat → Int64)) (S : hs_S) (hS : rx S r.1) (hI : hs_I S) (x : Int32) (i : Int32) (v : Int32) : gh_i l yL_put wsL_put (gm_rm 11 4 24) G (hw G q qo) r [.ref (q 0), .int x, .int i, .int v, .ref qo] (fun res u => hq (sp_put S x i v) res u) 4 24 := by
  refine gh_i.of (cc := cL_put) (nL := 6) (ret := some .int) (by decide +kernel) rfl (Nat.le_of_ble_eq_true rfl) ?_
  intro p e s m args below meth c ls C0 hz hxz hxn hl
  have hl : lv_has ls 6 [(0, .ref (q 0)), (1, .int x), (2, .int i), (3, .int v), (4, .ref qo)] := hl
  refine lv_aload C0.1.1 C0.1.2.1 dL_put_0 (lv_at hl 4 rfl) ?_
  refine lv_iconst (v := nI 0) C0.1.1 C0.1.2.1 dL_put_2 (by decide) ?_
  refine lv_aload_n C0.1.1 C0.1.2.1 dL_put_3 rfl (lv_at hl 0 rfl) ?_
  refine lv_iload_n C0.1.1 C0.1.2.1 dL_put_4 rfl (lv_at hl 1 rfl) ?_
  refine lv_iload_n C0.1.1 C0.1.2.1 dL_put_5 rfl (lv_at hl 2 rfl) ?_
  refine lv_iload_n C0.1.1 C0.1.2.1 dL_put_6 rfl (lv_at hl 3 rfl) ?_
  refine gx_callVi (w := xw G q) (wr := [(qo, .inl (G.2.2.2, 1, .inr (.inl r.2)))]) C0.1 (k_put l hst G q r.1 S hS hI x i v) (cwV 3 C0.1.2.2.2.2 gL_put_X0_put rfl rfl rfl (by decide +kernel) ⟨Nat.le_of_ble_eq_true rfl, Nat.le_of_ble_eq_true rfl⟩) (ci := 0) rfl rfl rfl hz hxz rfl hl.1 rfl (Nat.le_of_ble_eq_true rfl) dL_put_7 ⟨Nat.le_of_ble_eq_true rfl, Nat.le_of_ble_eq_true rfl⟩ (fun E ce q9 H locs hE hz hce hcv hcl => ?_) (fun res u H locs hp hz => ?_)
  · rcases hE.2 with ⟨hk, rfl⟩ | ⟨hk, rfl⟩ | ⟨hk, rfl⟩
    · skip
      refine gh_catch (E := xIA) C0 hxz (by decide +kernel) [] ⟨0, 12, 15, 13⟩ [⟨0, 12, 19, 27⟩, ⟨0, 12, 23, 52⟩] rfl (fun z hz9 => absurd hz9 List.not_mem_nil) (by decide) (by decide) (C0.1.2.2.2.2 (.classLink RL 13 "java/lang/IllegalArgumentException") (by decide +kernel)) hce hcv hcl ?_
      refine lv_astore (lv' := [(5, .ref q9), (0, .ref (q 0)), (1, .int x), (2, .int i), (3, .int v), (4, .ref qo)]) C0.1.1 C0.1.2.1 dL_put_15 hl (by decide) rfl (fun ls hl => ?_)
      refine lv_iconst (v := nI 1) C0.1.1 C0.1.2.1 dL_put_17 (by decide) ?_
      exact gh_reti (w := hw G q qo) r C0 hz (hq_x gd_put hk (by decide) hS) (Nat.le_of_ble_eq_true rfl) (Nat.le_of_ble_eq_true rfl) dL_put_18
    · skip
      refine gh_catch (E := xIS) C0 hxz (by decide +kernel) [⟨0, 12, 15, 13⟩] ⟨0, 12, 19, 27⟩ [⟨0, 12, 23, 52⟩] rfl (fun z hz9 => by rw [List.mem_singleton.mp hz9]; exact Or.inr ⟨by decide, _, C0.1.2.2.2.2 (.classLink RL 13 "java/lang/IllegalArgumentException") (by decide +kernel), hxn.1⟩) (by decide) (by decide) (C0.1.2.2.2.2 (.classLink RL 27 "java/lang/IllegalStateException") (by decide +kernel)) hce hcv hcl ?_
      refine lv_astore (lv' := [(5, .ref q9), (0, .ref (q 0)), (1, .int x), (2, .int i), (3, .int v), (4, .ref qo)]) C0.1.1 C0.1.2.1 dL_put_19 hl (by decide) rfl (fun ls hl => ?_)
      refine lv_iconst (v := nI 2) C0.1.1 C0.1.2.1 dL_put_21 (by decide) ?_
      exact gh_reti (w := hw G q qo) r C0 hz (hq_x gd_put hk (by decide) hS) (Nat.le_of_ble_eq_true rfl) (Nat.le_of_ble_eq_true rfl) dL_put_22
    · skip
      refine gh_catch (E := xIO) C0 hxz (by decide +kernel) [⟨0, 12, 15, 13⟩, ⟨0, 12, 19, 27⟩] ⟨0, 12, 23, 52⟩ [] rfl (fun z hz9 => by rcases List.mem_cons.mp hz9 with h9 | h9; exact h9 ▸ Or.inr ⟨by decide, _, C0.1.2.2.2.2 (.classLink RL 13 "java/lang/IllegalArgumentException") (by decide +kernel), hxn.2.1⟩; exact (List.mem_singleton.mp h9) ▸ Or.inr ⟨by decide, _, C0.1.2.2.2.2 (.classLink RL 27 "java/lang/IllegalStateException") (by decide +kernel), hxn.2.2⟩) (by decide) (by decide) (C0.1.2.2.2.2 (.classLink RL 52 "java/lang/IndexOutOfBoundsException") (by decide +kernel)) hce hcv hcl ?_
      refine lv_astore (lv' := [(5, .ref q9), (0, .ref (q 0)), (1, .int x), (2, .int i), (3, .int v), (4, .ref qo)]) C0.1.1 C0.1.2.1 dL_put_23 hl (by decide) rfl (fun ls hl => ?_)
      refine lv_iconst (v := nI 3) C0.1.1 C0.1.2.1 dL_put_25 (by decide) ?_
      exact gh_reti (w := hw G q qo) r C0 hz (hq_x gd_put hk (by decide) hS) (Nat.le_of_ble_eq_true rfl) (Nat.le_of_ble_eq_true rfl) dL_put_26
  · refine lv_i2l (v := res.toInt64) C0.1.1 C0.1.2.1 dL_put_10 rfl ?_
    refine gh_last C0.1.1 C0.1.2.1 hz dL_put_11 (fun H locs hz => ?_)
    refine lv_goto (tgt := 27) C0.1.1 C0.1.2.1 dL_put_12 (by decide) ?_
    refine lv_iconst (v := nI 0) C0.1.1 C0.1.2.1 dL_put_27 (by decide) ?_
    exact gh_reti (w := hw G q qo) (u, vp_updL r.2 0 res.toInt64) C0 hz (hq_0 hp (by rw [hp.2.1])) (Nat.le_of_ble_eq_true rfl) (Nat.le_of_ble_eq_true rfl) dL_put_28
set_option maxHeartbeats 4000000 in
set_option maxRecDepth 100000 in
/-- get -/
theorem h_get (l : Launch) (hst : l.stackTraces = false) (G : gs_G) (q : Nat → Nat) (qo : Nat) (r : xr × (Nat → Int64)) (S : hs_S) (hS : rx S r.1) (hI : hs_I S) (x : Int32) (i : Int32) : gh_i l yL_get wsL_get (gm_rm 11 4 24) G (hw G q qo) r [.ref (q 0), .int x, .int i, .ref qo] (fun res u => hq (sp_get S x i) res u) 4 24 := by
  refine gh_i.of (cc := cL_get) (nL := 5) (ret := some .int) (by decide +kernel) rfl (Nat.le_of_ble_eq_true rfl) ?_
  intro p e s m args below meth c ls C0 hz hxz hxn hl
  have hl : lv_has ls 5 [(0, .ref (q 0)), (1, .int x), (2, .int i), (3, .ref qo)] := hl
  refine lv_aload_n C0.1.1 C0.1.2.1 dL_get_0 rfl (lv_at hl 3 rfl) ?_
  refine lv_iconst (v := nI 0) C0.1.1 C0.1.2.1 dL_get_1 (by decide) ?_
  refine lv_aload_n C0.1.1 C0.1.2.1 dL_get_2 rfl (lv_at hl 0 rfl) ?_
  refine lv_iload_n C0.1.1 C0.1.2.1 dL_get_3 rfl (lv_at hl 1 rfl) ?_
  refine lv_iload_n C0.1.1 C0.1.2.1 dL_get_4 rfl (lv_at hl 2 rfl) ?_
  refine gx_callVi (w := xw G q) (wr := [(qo, .inl (G.2.2.2, 1, .inr (.inl r.2)))]) C0.1 (k_get l hst G q r.1 S hS hI x i) (cwV 2 C0.1.2.2.2.2 gL_get_X0_get rfl rfl rfl (by decide +kernel) ⟨Nat.le_of_ble_eq_true rfl, Nat.le_of_ble_eq_true rfl⟩) (ci := 0) rfl rfl rfl hz hxz rfl hl.1 rfl (Nat.le_of_ble_eq_true rfl) dL_get_5 ⟨Nat.le_of_ble_eq_true rfl, Nat.le_of_ble_eq_true rfl⟩ (fun E ce q9 H locs hE hz hce hcv hcl => ?_) (fun res u H locs hp hz => ?_)
  · rcases hE.2 with ⟨hk, rfl⟩ | ⟨hk, rfl⟩ | ⟨hk, rfl⟩
    · skip
      refine gh_catch (E := xIA) C0 hxz (by decide +kernel) [] ⟨0, 10, 13, 13⟩ [⟨0, 10, 17, 27⟩, ⟨0, 10, 21, 52⟩] rfl (fun z hz9 => absurd hz9 List.not_mem_nil) (by decide) (by decide) (C0.1.2.2.2.2 (.classLink RL 13 "java/lang/IllegalArgumentException") (by decide +kernel)) hce hcv hcl ?_
      refine lv_astore (lv' := [(4, .ref q9), (0, .ref (q 0)), (1, .int x), (2, .int i), (3, .ref qo)]) C0.1.1 C0.1.2.1 dL_get_13 hl (by decide) rfl (fun ls hl => ?_)
      refine lv_iconst (v := nI 1) C0.1.1 C0.1.2.1 dL_get_15 (by decide) ?_
      exact gh_reti (w := hw G q qo) r C0 hz (hq_x gd_get hk (by decide) hS) (Nat.le_of_ble_eq_true rfl) (Nat.le_of_ble_eq_true rfl) dL_get_16
    · skip
      refine gh_catch (E := xIS) C0 hxz (by decide +kernel) [⟨0, 10, 13, 13⟩] ⟨0, 10, 17, 27⟩ [⟨0, 10, 21, 52⟩] rfl (fun z hz9 => by rw [List.mem_singleton.mp hz9]; exact Or.inr ⟨by decide, _, C0.1.2.2.2.2 (.classLink RL 13 "java/lang/IllegalArgumentException") (by decide +kernel), hxn.1⟩) (by decide) (by decide) (C0.1.2.2.2.2 (.classLink RL 27 "java/lang/IllegalStateException") (by decide +kernel)) hce hcv hcl ?_
      refine lv_astore (lv' := [(4, .ref q9), (0, .ref (q 0)), (1, .int x), (2, .int i), (3, .ref qo)]) C0.1.1 C0.1.2.1 dL_get_17 hl (by decide) rfl (fun ls hl => ?_)
      refine lv_iconst (v := nI 2) C0.1.1 C0.1.2.1 dL_get_19 (by decide) ?_
      exact gh_reti (w := hw G q qo) r C0 hz (hq_x gd_get hk (by decide) hS) (Nat.le_of_ble_eq_true rfl) (Nat.le_of_ble_eq_true rfl) dL_get_20
    · skip
      refine gh_catch (E := xIO) C0 hxz (by decide +kernel) [⟨0, 10, 13, 13⟩, ⟨0, 10, 17, 27⟩] ⟨0, 10, 21, 52⟩ [] rfl (fun z hz9 => by rcases List.mem_cons.mp hz9 with h9 | h9; exact h9 ▸ Or.inr ⟨by decide, _, C0.1.2.2.2.2 (.classLink RL 13 "java/lang/IllegalArgumentException") (by decide +kernel), hxn.2.1⟩; exact (List.mem_singleton.mp h9) ▸ Or.inr ⟨by decide, _, C0.1.2.2.2.2 (.classLink RL 27 "java/lang/IllegalStateException") (by decide +kernel), hxn.2.2⟩) (by decide) (by decide) (C0.1.2.2.2.2 (.classLink RL 52 "java/lang/IndexOutOfBoundsException") (by decide +kernel)) hce hcv hcl ?_
      refine lv_astore (lv' := [(4, .ref q9), (0, .ref (q 0)), (1, .int x), (2, .int i), (3, .ref qo)]) C0.1.1 C0.1.2.1 dL_get_21 hl (by decide) rfl (fun ls hl => ?_)
      refine lv_iconst (v := nI 3) C0.1.1 C0.1.2.1 dL_get_23 (by decide) ?_
      exact gh_reti (w := hw G q qo) r C0 hz (hq_x gd_get hk (by decide) hS) (Nat.le_of_ble_eq_true rfl) (Nat.le_of_ble_eq_true rfl) dL_get_24
  · refine lv_i2l (v := res.toInt64) C0.1.1 C0.1.2.1 dL_get_8 rfl ?_
    refine gh_last C0.1.1 C0.1.2.1 hz dL_get_9 (fun H locs hz => ?_)
    refine lv_goto (tgt := 25) C0.1.1 C0.1.2.1 dL_get_10 (by decide) ?_
    refine lv_iconst (v := nI 0) C0.1.1 C0.1.2.1 dL_get_25 (by decide) ?_
    exact gh_reti (w := hw G q qo) (u, vp_updL r.2 0 res.toInt64) C0 hz (hq_0 hp (by rw [hp.2.1])) (Nat.le_of_ble_eq_true rfl) (Nat.le_of_ble_eq_true rfl) dL_get_26
set_option maxHeartbeats 4000000 in
set_option maxRecDepth 100000 in
/-- owner -/
theorem h_owner (l : Launch) (hst : l.stackTraces = false) (G : gs_G) (q : Nat → Nat) (qo : Nat) (r : xr × (Nat → Int64)) (S : hs_S) (hS : rx S r.1) (hI : hs_I S) (x : Int32) : gh_i l yL_owner wsL_owner (gm_rm 11 4 24) G (hw G q qo) r [.ref (q 0), .int x, .ref qo] (fun res u => hq (sp_owner S x) res u) 4 24 := by
  refine gh_i.of (cc := cL_owner) (nL := 4) (ret := some .int) (by decide +kernel) rfl (Nat.le_of_ble_eq_true rfl) ?_
  intro p e s m args below meth c ls C0 hz hxz hxn hl
  have hl : lv_has ls 4 [(0, .ref (q 0)), (1, .int x), (2, .ref qo)] := hl
  refine lv_aload_n C0.1.1 C0.1.2.1 dL_owner_0 rfl (lv_at hl 2 rfl) ?_
  refine lv_iconst (v := nI 0) C0.1.1 C0.1.2.1 dL_owner_1 (by decide) ?_
  refine lv_aload_n C0.1.1 C0.1.2.1 dL_owner_2 rfl (lv_at hl 0 rfl) ?_
  refine lv_iload_n C0.1.1 C0.1.2.1 dL_owner_3 rfl (lv_at hl 1 rfl) ?_
  refine gx_callVi (w := xw G q) (wr := [(qo, .inl (G.2.2.2, 1, .inr (.inl r.2)))]) C0.1 (k_owner l hst G q r.1 S hS hI x) (cwV 1 C0.1.2.2.2.2 gL_owner_X0_owner rfl rfl rfl (by decide +kernel) ⟨Nat.le_of_ble_eq_true rfl, Nat.le_of_ble_eq_true rfl⟩) (ci := 0) rfl rfl rfl hz hxz rfl hl.1 rfl (Nat.le_of_ble_eq_true rfl) dL_owner_4 ⟨Nat.le_of_ble_eq_true rfl, Nat.le_of_ble_eq_true rfl⟩ (fun E ce q9 H locs hE hz hce hcv hcl => ?_) (fun res u H locs hp hz => ?_)
  · obtain ⟨hk, rfl⟩ := hE
    refine gh_catch (E := xIO) C0 hxz (by decide +kernel) [] ⟨0, 9, 12, 52⟩ [] rfl (fun z hz9 => absurd hz9 List.not_mem_nil) (by decide) (by decide) (C0.1.2.2.2.2 (.classLink RL 52 "java/lang/IndexOutOfBoundsException") (by decide +kernel)) hce hcv hcl ?_
    refine lv_astore_n (lv' := [(3, .ref q9), (0, .ref (q 0)), (1, .int x), (2, .ref qo)]) C0.1.1 C0.1.2.1 dL_owner_12 rfl hl (by decide) rfl (fun ls hl => ?_)
    refine lv_iconst (v := nI 1) C0.1.1 C0.1.2.1 dL_owner_13 (by decide) ?_
    exact gh_reti (w := hw G q qo) r C0 hz (hq_x gd_owner hk (by decide) hS) (Nat.le_of_ble_eq_true rfl) (Nat.le_of_ble_eq_true rfl) dL_owner_14
  · refine lv_i2l (v := res.toInt64) C0.1.1 C0.1.2.1 dL_owner_7 rfl ?_
    refine gh_last C0.1.1 C0.1.2.1 hz dL_owner_8 (fun H locs hz => ?_)
    refine lv_goto (tgt := 15) C0.1.1 C0.1.2.1 dL_owner_9 (by decide) ?_
    refine lv_iconst (v := nI 0) C0.1.1 C0.1.2.1 dL_owner_15 (by decide) ?_
    exact gh_reti (w := hw G q qo) (u, vp_updL r.2 0 res.toInt64) C0 hz (hq_0 hp (by rw [hp.2.1])) (Nat.le_of_ble_eq_true rfl) (Nat.le_of_ble_eq_true rfl) dL_owner_16
set_option maxHeartbeats 4000000 in
set_option maxRecDepth 100000 in
/-- told -/
theorem h_told (l : Launch) (hst : l.stackTraces = false) (G : gs_G) (q : Nat → Nat) (qo : Nat) (r : xr × (Nat → Int64)) (S : hs_S) (hS : rx S r.1) (hI : hs_I S) (x : Int32) : gh_i l yL_told wsL_told (gm_rm 11 4 24) G (hw G q qo) r [.ref (q 0), .int x, .ref qo] (fun res u => hq (sp_told S x) res u) 4 24 := by
  refine gh_i.of (cc := cL_told) (nL := 4) (ret := some .int) (by decide +kernel) rfl (Nat.le_of_ble_eq_true rfl) ?_
  intro p e s m args below meth c ls C0 hz hxz hxn hl
  have hl : lv_has ls 4 [(0, .ref (q 0)), (1, .int x), (2, .ref qo)] := hl
  refine lv_aload_n C0.1.1 C0.1.2.1 dL_told_0 rfl (lv_at hl 2 rfl) ?_
  refine lv_iconst (v := nI 0) C0.1.1 C0.1.2.1 dL_told_1 (by decide) ?_
  refine lv_aload_n C0.1.1 C0.1.2.1 dL_told_2 rfl (lv_at hl 0 rfl) ?_
  refine lv_iload_n C0.1.1 C0.1.2.1 dL_told_3 rfl (lv_at hl 1 rfl) ?_
  refine gx_callVi (w := xw G q) (wr := [(qo, .inl (G.2.2.2, 1, .inr (.inl r.2)))]) C0.1 (k_told l hst G q r.1 S hS hI x) (cwV 1 C0.1.2.2.2.2 gL_told_X0_told rfl rfl rfl (by decide +kernel) ⟨Nat.le_of_ble_eq_true rfl, Nat.le_of_ble_eq_true rfl⟩) (ci := 0) rfl rfl rfl hz hxz rfl hl.1 rfl (Nat.le_of_ble_eq_true rfl) dL_told_4 ⟨Nat.le_of_ble_eq_true rfl, Nat.le_of_ble_eq_true rfl⟩ (fun E ce q9 H locs hE hz hce hcv hcl => ?_) (fun res u H locs hp hz => ?_)
  · obtain ⟨hk, rfl⟩ := ex_1 hE gd_told
    refine gh_catch (E := xIA) C0 hxz (by decide +kernel) [] ⟨0, 9, 12, 13⟩ [] rfl (fun z hz9 => absurd hz9 List.not_mem_nil) (by decide) (by decide) (C0.1.2.2.2.2 (.classLink RL 13 "java/lang/IllegalArgumentException") (by decide +kernel)) hce hcv hcl ?_
    refine lv_astore_n (lv' := [(3, .ref q9), (0, .ref (q 0)), (1, .int x), (2, .ref qo)]) C0.1.1 C0.1.2.1 dL_told_12 rfl hl (by decide) rfl (fun ls hl => ?_)
    refine lv_iconst (v := nI 1) C0.1.1 C0.1.2.1 dL_told_13 (by decide) ?_
    exact gh_reti (w := hw G q qo) r C0 hz (hq_x gd_told hk (by decide) hS) (Nat.le_of_ble_eq_true rfl) (Nat.le_of_ble_eq_true rfl) dL_told_14
  · refine lv_i2l (v := res.toInt64) C0.1.1 C0.1.2.1 dL_told_7 rfl ?_
    refine gh_last C0.1.1 C0.1.2.1 hz dL_told_8 (fun H locs hz => ?_)
    refine lv_goto (tgt := 15) C0.1.1 C0.1.2.1 dL_told_9 (by decide) ?_
    refine lv_iconst (v := nI 0) C0.1.1 C0.1.2.1 dL_told_15 (by decide) ?_
    exact gh_reti (w := hw G q qo) (u, vp_updL r.2 0 res.toInt64) C0 hz (hq_0 hp (by rw [hp.2.1])) (Nat.le_of_ble_eq_true rfl) (Nat.le_of_ble_eq_true rfl) dL_told_16

