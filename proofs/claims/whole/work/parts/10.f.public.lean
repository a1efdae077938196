/-! HandleHeap: its face -/
set_option maxHeartbeats 4000000 in
set_option maxRecDepth 100000 in
/-- ask -/
theorem k_ask (l : Launch) (hst : l.stackTraces = false) (G : gs_G) (q : Nat → Nat) (r : xr) (S : hs_S) (hS : rx S r) (hI : hs_I S) (x : Int32) (fx : Bool) : gx_i l yX0_ask wsX0_ask (gm_rm 10 4 24) G (xw G q) r [.ref (q 0), .int x, .int (bI fx)] (fun res u => px (sp_ask S x fx) res u) (fun E => (sp_ask S x fx).1 ≠ 0 ∧ ex (sp_ask S x fx).1 E) 4 24 := by
  refine gx_i.of (cc := cX0_ask) (nL := 4) (ret := (some .int)) (by decide +kernel) rfl (Nat.le_of_ble_eq_true rfl) ?_
  intro p e s m args below meth c ls C0 hz hxz hl
  have hl : lv_has ls 4 [(0, .ref (q 0)), (1, .int x), (2, .int (bI fx))] := hl
  refine lv_iload_n C0.1.1 C0.1.2.1 dX0_ask_0 rfl (lv_at hl 1 rfl) ?_
  refine gx_callSv (w := xw G q) (wr := []) C0.1 (k_checkBlockLength l hst G q r x) (va_cwS 1 C0.1.2.2.2.2 gX0_ask_X0_checkBlockLength rfl rfl rfl (by decide +kernel) ⟨Nat.le_of_ble_eq_true rfl, Nat.le_of_ble_eq_true rfl⟩) (gs_nil hz) hxz rfl hl.1 rfl (Nat.le_of_ble_eq_true rfl) dX0_ask_1 ⟨Nat.le_of_ble_eq_true rfl, Nat.le_of_ble_eq_true rfl⟩ (fun E ce q9 H locs hE hz hce hcv hcl => gs_pass C0 (ex1 (sp_ask_x hE.2) hE.1) (gs_unnil hz) hce hcv hcl (Nat.le_of_ble_eq_true rfl) (Nat.le_of_ble_eq_true rfl)) (fun u9 H locs hp9 hz => ?_)
  replace hz := gs_unnil hz
  rw [hp9.1] at hz
  obtain ⟨-, n, h1, h2, rfl⟩ := hp9
  refine lv_aload_n C0.1.1 C0.1.2.1 dX0_ask_4 rfl (lv_at hl 0 rfl) ?_
  rcases op_cases (hs_lu (hs_u S) 0 48) with ⟨h, hlu⟩ | hlu
  · skip
    obtain ⟨-, hh, hu⟩ := hs_lu_ok _ _ _ hlu
    have hsp := sp_ask_s (fx := fx) h1 h2 hlu
    refine gs_callVi (w := xw G q) (wr := []) C0.1 (k_leastUnused l G q r S hS hI) (cwV 0 C0.1.2.2.2.2 gX0_ask_X0_leastUnused rfl rfl rfl (by decide +kernel) ⟨Nat.le_of_ble_eq_true rfl, Nat.le_of_ble_eq_true rfl⟩) (ci := 0) rfl rfl rfl (gs_nil hz) rfl hl.1 rfl (Nat.le_of_ble_eq_true rfl) dX0_ask_5 ⟨Nat.le_of_ble_eq_true rfl, Nat.le_of_ble_eq_true rfl⟩ (fun res u9 H locs hp9 hz => ?_)
    replace hz := gs_unnil hz
    rw [hp9.1] at hz
    refine gs_eq (y := nI h) (by rw [hp9.2, hlu]; rfl) ?_
    clear hp9
    refine lv_istore_n (lv' := [(3, .int (nI h)), (0, .ref (q 0)), (1, .int (nI n)), (2, .int (bI fx))]) C0.1.1 C0.1.2.1 dX0_ask_8 rfl hl (by decide) rfl (fun ls hl => ?_)
    refine lv_iload_n C0.1.1 C0.1.2.1 dX0_ask_9 rfl (lv_at hl 0 rfl) ?_
    refine lv_iconst (v := (-1)) C0.1.1 C0.1.2.1 dX0_ask_10 (by decide) ?_
    refine lv_icmp_eq (tgt := 24) C0.1.1 C0.1.2.1 dX0_ask_11 (by decide) (fun c1 => ?_) (fun c1 => ?_)
    · skip
      exact absurd c1 (n0_ne (by omega))
    · skip
      refine lv_aload_n C0.1.1 C0.1.2.1 dX0_ask_14 rfl (lv_at hl 1 rfl) ?_
      refine lv_iload_n C0.1.1 C0.1.2.1 dX0_ask_15 rfl (lv_at hl 0 rfl) ?_
      refine lv_iload_n C0.1.1 C0.1.2.1 dX0_ask_16 rfl (lv_at hl 2 rfl) ?_
      refine lv_iload_n C0.1.1 C0.1.2.1 dX0_ask_17 rfl (lv_at hl 3 rfl) ?_
      refine gs_callVi (w := xw G q) (wr := []) C0.1 (k_makeBlock l G q r S hS hI h n fx (by omega) (by omega) h1 h2) (cwV 3 C0.1.2.2.2.2 gX0_ask_X0_makeBlock rfl rfl rfl (by decide +kernel) ⟨Nat.le_of_ble_eq_true rfl, Nat.le_of_ble_eq_true rfl⟩) (ci := 0) rfl rfl rfl (gs_nil hz) rfl hl.1 rfl (Nat.le_of_ble_eq_true rfl) dX0_ask_18 ⟨Nat.le_of_ble_eq_true rfl, Nat.le_of_ble_eq_true rfl⟩ (fun res u H locs hp hz => ?_)
      replace hz := gs_unnil hz
      rcases op_cases (hs_room S n 48).2 with ⟨k, ho⟩ | ho
      · skip
        obtain ⟨e1, e2⟩ := hp.1 k ho
        refine gs_eq (y := nI 1) e1 ?_
        refine lv_if_ne (tgt := 26) C0.1.1 C0.1.2.1 dX0_ask_21 (by decide) (fun c2 => ?_) (fun c2 => ?_)
        · rw [n0_eq (by omega)] at c2
          refine lv_iload_n C0.1.1 C0.1.2.1 dX0_ask_26 rfl (lv_at hl 0 rfl) ?_
          exact vx_ret (gs_reti u C0 hz (px_of (hsp.trans (sp_mk_s ho)) rfl e2) (Nat.le_of_ble_eq_true rfl) (Nat.le_of_ble_eq_true rfl) dX0_ask_27)
        · rw [n0_eq (by omega)] at c2
          exact absurd c2 (by decide)
      · skip
        obtain ⟨e1, e2⟩ := hp.2 ho
        refine gs_eq (y := nI 0) e1 ?_
        refine lv_if_ne (tgt := 26) C0.1.1 C0.1.2.1 dX0_ask_21 (by decide) (fun c2 => ?_) (fun c2 => ?_)
        · rw [n0_eq (by omega)] at c2
          exact absurd rfl c2
        · rw [n0_eq (by omega)] at c2
          refine lv_iconst (v := (-1)) C0.1.1 C0.1.2.1 dX0_ask_24 (by decide) ?_
          exact vx_ret (gs_reti u C0 hz (px_of (hsp.trans (sp_mk_n ho)) rfl e2) (Nat.le_of_ble_eq_true rfl) (Nat.le_of_ble_eq_true rfl) dX0_ask_25)
  · skip
    have hsp := sp_ask_n (fx := fx) h1 h2 hlu
    refine gs_callVi (w := xw G q) (wr := []) C0.1 (k_leastUnused l G q r S hS hI) (cwV 0 C0.1.2.2.2.2 gX0_ask_X0_leastUnused rfl rfl rfl (by decide +kernel) ⟨Nat.le_of_ble_eq_true rfl, Nat.le_of_ble_eq_true rfl⟩) (ci := 0) rfl rfl rfl (gs_nil hz) rfl hl.1 rfl (Nat.le_of_ble_eq_true rfl) dX0_ask_5 ⟨Nat.le_of_ble_eq_true rfl, Nat.le_of_ble_eq_true rfl⟩ (fun res u9 H locs hp9 hz => ?_)
    replace hz := gs_unnil hz
    rw [hp9.1] at hz
    refine gs_eq (y := (-1)) (by rw [hp9.2, hlu]; rfl) ?_
    clear hp9
    refine lv_istore_n (lv' := [(3, .int ((-1))), (0, .ref (q 0)), (1, .int (nI n)), (2, .int (bI fx))]) C0.1.1 C0.1.2.1 dX0_ask_8 rfl hl (by decide) rfl (fun ls hl => ?_)
    refine lv_iload_n C0.1.1 C0.1.2.1 dX0_ask_9 rfl (lv_at hl 0 rfl) ?_
    refine lv_iconst (v := (-1)) C0.1.1 C0.1.2.1 dX0_ask_10 (by decide) ?_
    refine lv_icmp_eq (tgt := 24) C0.1.1 C0.1.2.1 dX0_ask_11 (by decide) (fun c1 => ?_) (fun c1 => ?_)
    · skip
      refine lv_iconst (v := (-1)) C0.1.1 C0.1.2.1 dX0_ask_24 (by decide) ?_
      exact vx_ret (gs_reti r C0 hz (px_of hsp rfl hS) (Nat.le_of_ble_eq_true rfl) (Nat.le_of_ble_eq_true rfl) dX0_ask_25)
    · skip
      exact absurd rfl c1
set_option maxHeartbeats 4000000 in
set_option maxRecDepth 100000 in
/-- drop -/
theorem k_drop (l : Launch) (hst : l.stackTraces = false) (G : gs_G) (q : Nat → Nat) (r : xr) (S : hs_S) (hS : rx S r) (hI : hs_I S) (x : Int32) : gx_i l yX0_drop wsX0_drop (gm_rm 10 4 24) G (xw G q) r [.ref (q 0), .int x] (fun res u => px (sp_drop S x) res u) (fun E => (sp_drop S x).1 ≠ 0 ∧ ex (sp_drop S x).1 E) 4 24 := by
  refine gx_i.of (cc := cX0_drop) (nL := 3) (ret := (some .int)) (by decide +kernel) rfl (Nat.le_of_ble_eq_true rfl) ?_
  intro p e s m args below meth c ls C0 hz hxz hl
  have hin : ∀ w ∈ wsX00, w ∈ wsX0_drop := by decide +kernel
  have l_ln : Cond.fieldLink RX0 22 "HandleHeap" "length" "[I" ∈ wsX0_drop := by decide +kernel
  have hl : lv_has ls 3 [(0, .ref (q 0)), (1, .int x)] := hl
  refine lv_aload_n C0.1.1 C0.1.2.1 dX0_drop_0 rfl (lv_at hl 0 rfl) ?_
  refine lv_iload_n C0.1.1 C0.1.2.1 dX0_drop_1 rfl (lv_at hl 1 rfl) ?_
  refine gx_callVv (w := xw G q) (wr := []) C0.1 (k_checkInUse l hst G q r S hS hI x) (cwV 1 C0.1.2.2.2.2 gX0_drop_X0_checkInUse rfl rfl rfl (by decide +kernel) ⟨Nat.le_of_ble_eq_true rfl, Nat.le_of_ble_eq_true rfl⟩) (ci := 0) rfl rfl rfl (gs_nil hz) hxz rfl hl.1 rfl (Nat.le_of_ble_eq_true rfl) dX0_drop_2 ⟨Nat.le_of_ble_eq_true rfl, Nat.le_of_ble_eq_true rfl⟩ (fun E ce q9 H locs hE hz hce hcv hcl => gs_pass C0 (ex1 (sp_use_no hE.2) hE.1) (gs_unnil hz) hce hcv hcl (Nat.le_of_ble_eq_true rfl) (Nat.le_of_ble_eq_true rfl)) (fun u9 H locs hp9 hz => ?_)
  replace hz := gs_unnil hz
  rw [hp9.1] at hz
  obtain ⟨-, h, hh, rfl, hu⟩ := hp9
  refine lv_aload_n C0.1.1 C0.1.2.1 dX0_drop_5 rfl (lv_at hl 0 rfl) ?_
  refine xg_ln C0 hin hz l_ln dX0_drop_6 ?_
  refine lv_iload_n C0.1.1 C0.1.2.1 dX0_drop_9 rfl (lv_at hl 1 rfl) ?_
  refine xl_ln C0 hz h (by omega) rfl dX0_drop_10 ?_
  refine gs_eq (y := nI (hs_n S h)) (hS.2.1 h hh) ?_
  refine lv_istore_n (lv' := [(2, .int (nI (hs_n S h))), (0, .ref (q 0)), (1, .int (nI h))]) C0.1.1 C0.1.2.1 dX0_drop_11 rfl hl (by decide) rfl (fun ls hl => ?_)
  refine lv_aload_n C0.1.1 C0.1.2.1 dX0_drop_12 rfl (lv_at hl 1 rfl) ?_
  refine lv_iload_n C0.1.1 C0.1.2.1 dX0_drop_13 rfl (lv_at hl 2 rfl) ?_
  refine lv_iconst (v := (-1)) C0.1.1 C0.1.2.1 dX0_drop_14 (by decide) ?_
  refine gs_eq (y := xb 0 0) (rfl) ?_
  refine gs_callVv (w := xw G q) (wr := []) C0.1 (k_takeBlock l G q r S hS hI.J h 0 hh (by decide)) (cwV 2 C0.1.2.2.2.2 gX0_drop_X0_takeBlock rfl rfl rfl (by decide +kernel) ⟨Nat.le_of_ble_eq_true rfl, Nat.le_of_ble_eq_true rfl⟩) (ci := 0) rfl rfl rfl (gs_nil hz) rfl hl.1 rfl (Nat.le_of_ble_eq_true rfl) dX0_drop_15 ⟨Nat.le_of_ble_eq_true rfl, Nat.le_of_ble_eq_true rfl⟩ (fun u H locs hp hz => ?_)
  replace hz := gs_unnil hz
  refine lv_iload_n C0.1.1 C0.1.2.1 dX0_drop_18 rfl (lv_at hl 0 rfl) ?_
  exact vx_ret (gs_reti u C0 hz (px_of (sp_use_h hh hu) rfl hp) (Nat.le_of_ble_eq_true rfl) (Nat.le_of_ble_eq_true rfl) dX0_drop_19)
set_option maxHeartbeats 4000000 in
set_option maxRecDepth 100000 in
/-- resize -/
theorem k_resize (l : Launch) (hst : l.stackTraces = false) (G : gs_G) (q : Nat → Nat) (r : xr) (S : hs_S) (hS : rx S r) (hI : hs_I S) (x y : Int32) : gx_i l yX0_resize wsX0_resize (gm_rm 10 4 24) G (xw G q) r [.ref (q 0), .int x, .int y] (fun res u => px (sp_resize S x y) res u) (fun E => (sp_resize S x y).1 ≠ 0 ∧ ex (sp_resize S x y).1 E) 4 24 := by
  refine gx_i.of (cc := cX0_resize) (nL := 3) (ret := (some .boolean)) (by decide +kernel) rfl (Nat.le_of_ble_eq_true rfl) ?_
  intro p e s m args below meth c ls C0 hz hxz hl
  have hin : ∀ w ∈ wsX00, w ∈ wsX0_resize := by decide +kernel
  have l_bg : Cond.fieldLink RX0 13 "HandleHeap" "begin" "[I" ∈ wsX0_resize := by decide +kernel
  have l_ln : Cond.fieldLink RX0 22 "HandleHeap" "length" "[I" ∈ wsX0_resize := by decide +kernel
  have hl : lv_has ls 3 [(0, .ref (q 0)), (1, .int x), (2, .int y)] := hl
  refine lv_aload_n C0.1.1 C0.1.2.1 dX0_resize_0 rfl (lv_at hl 0 rfl) ?_
  refine lv_iload_n C0.1.1 C0.1.2.1 dX0_resize_1 rfl (lv_at hl 1 rfl) ?_
  refine gx_callVv (w := xw G q) (wr := []) C0.1 (k_checkInUse l hst G q r S hS hI x) (cwV 1 C0.1.2.2.2.2 gX0_resize_X0_checkInUse rfl rfl rfl (by decide +kernel) ⟨Nat.le_of_ble_eq_true rfl, Nat.le_of_ble_eq_true rfl⟩) (ci := 0) rfl rfl rfl (gs_nil hz) hxz rfl hl.1 rfl (Nat.le_of_ble_eq_true rfl) dX0_resize_2 ⟨Nat.le_of_ble_eq_true rfl, Nat.le_of_ble_eq_true rfl⟩ (fun E ce q9 H locs hE hz hce hcv hcl => gs_pass C0 (ex1 (sp_use_no hE.2) hE.1) (gs_unnil hz) hce hcv hcl (Nat.le_of_ble_eq_true rfl) (Nat.le_of_ble_eq_true rfl)) (fun u9 H locs hp9 hz => ?_)
  replace hz := gs_unnil hz
  rw [hp9.1] at hz
  obtain ⟨-, h, hh, rfl, hu⟩ := hp9
  refine lv_iload_n C0.1.1 C0.1.2.1 dX0_resize_5 rfl (lv_at hl 2 rfl) ?_
  refine gx_callSv (w := xw G q) (wr := []) C0.1 (k_checkBlockLength l hst G q r y) (va_cwS 1 C0.1.2.2.2.2 gX0_resize_X0_checkBlockLength rfl rfl rfl (by decide +kernel) ⟨Nat.le_of_ble_eq_true rfl, Nat.le_of_ble_eq_true rfl⟩) (gs_nil hz) hxz rfl hl.1 rfl (Nat.le_of_ble_eq_true rfl) dX0_resize_6 ⟨Nat.le_of_ble_eq_true rfl, Nat.le_of_ble_eq_true rfl⟩ (fun E ce q9 H locs hE hz hce hcv hcl => gs_pass C0 (ex1 (sp_resize_x hh hu hE.2) hE.1) (gs_unnil hz) hce hcv hcl (Nat.le_of_ble_eq_true rfl) (Nat.le_of_ble_eq_true rfl)) (fun u9 H locs hp9 hz => ?_)
  replace hz := gs_unnil hz
  rw [hp9.1] at hz
  obtain ⟨-, n, h1, h2, rfl⟩ := hp9
  have hsp := sp_resize_h hh hu h1 h2
  have hu2 := hI.u2 hh
  refine lv_aload_n C0.1.1 C0.1.2.1 dX0_resize_9 rfl (lv_at hl 0 rfl) ?_
  refine xg_bg C0 hin hz l_bg dX0_resize_10 ?_
  refine lv_iload_n C0.1.1 C0.1.2.1 dX0_resize_13 rfl (lv_at hl 1 rfl) ?_
  refine xl_bg C0 hz h (by omega) rfl dX0_resize_14 ?_
  refine gs_eq (y := xb (hs_u S h) (hs_b S h)) (hS.1 h hh) ?_
  refine lv_bipush (v := (-2)) C0.1.1 C0.1.2.1 dX0_resize_15 (by decide) ?_
  refine lv_icmp_ne (tgt := 28) C0.1.1 C0.1.2.1 dX0_resize_17 (by decide) (fun c1 => ?_) (fun c1 => ?_)
  · skip
    rw [xb_m2 (hI.b2 hh) (hI.u2 hh)] at c1
    have hu3 : hs_u S h = 2 := by omega
    rw [if_neg c1] at hsp
    obtain ⟨hk, hkat⟩ := hg_ix_ok ((hI.2.1 h).mpr ⟨hh, hu3⟩)
    obtain ⟨k, ek⟩ : ∃ z, z = hg_ix h (hs_R S) := ⟨_, rfl⟩
    rw [← ek] at hk hkat
    have hfb : hs_fb S h = hs_gl S (k + 1) := by unfold hs_fb; rw [ek]
    have hbn := hI.bn hh hu3
    have hge : hg_gb (hs_R S) (hs_b S) (hs_n S) (k + 1) ≤ hg_ge (hs_R S) (hs_b S) (k + 1) := hI.1.1 (k + 1) (by omega)
    have hge2 := hg_gele hI.1 (k := k + 1) (by omega)
    have hgl : hs_gl S (k + 1) = hg_ge (hs_R S) (hs_b S) (k + 1) - (hs_b S h + hs_n S h) := by unfold hs_gl hg_gl; rw [hg_gbs, hkat]
    rw [hg_gbs, hkat] at hge
    have hfm : ∀ g, g < 48 → g ≠ h → hs_u S g = 2 → hs_b S g + hs_n S g ≤ hs_b S h ∨ hg_ge (hs_R S) (hs_b S) (k + 1) ≤ hs_b S g := by
      have := hs_near_d hI hk
      rw [hkat] at this
      exact this
    have hcmp : ¬ (nI (hs_gl S (k + 1)) < nI n - nI (hs_n S h)) ↔ n ≤ hs_n S h + hs_fb S h := by
      rw [hfb, Int32.lt_iff_toInt_lt, pk_sub_toInt (by omega) (by omega), nI_toInt (by omega)]
      omega
    have hfl := hS.2.2.1 h hh hu3
    have hcal : gm_i l yX0_freeBehind wsX0_freeBehind (gm_rm 4 0 0) G (xw G q) r [.ref (q 0), .int (nI h)] (fun res u => u = r ∧ res = nI (hs_gl S (k + 1))) 0 0 := by
      have := k_freeBehind l G q r S hS hI.J k hk
      rw [hkat] at this
      exact this
    refine lv_iload_n C0.1.1 C0.1.2.1 dX0_resize_28 rfl (lv_at hl 2 rfl) ?_
    refine lv_aload_n C0.1.1 C0.1.2.1 dX0_resize_29 rfl (lv_at hl 0 rfl) ?_
    refine xg_ln C0 hin hz l_ln dX0_resize_30 ?_
    refine lv_iload_n C0.1.1 C0.1.2.1 dX0_resize_33 rfl (lv_at hl 1 rfl) ?_
    refine xl_ln C0 hz h (by omega) rfl dX0_resize_34 ?_
    refine gs_eq (y := nI (hs_n S h)) (hS.2.1 h hh) ?_
    refine lv_isub C0.1.1 C0.1.2.1 dX0_resize_35 ?_
    refine lv_aload_n C0.1.1 C0.1.2.1 dX0_resize_36 rfl (lv_at hl 0 rfl) ?_
    refine lv_iload_n C0.1.1 C0.1.2.1 dX0_resize_37 rfl (lv_at hl 1 rfl) ?_
    refine gs_callVi (w := xw G q) (wr := []) C0.1 (hcal) (cwV 1 C0.1.2.2.2.2 gX0_resize_X0_freeBehind rfl rfl rfl (by decide +kernel) ⟨Nat.le_of_ble_eq_true rfl, Nat.le_of_ble_eq_true rfl⟩) (ci := 0) rfl rfl rfl (gs_nil hz) rfl hl.1 rfl (Nat.le_of_ble_eq_true rfl) dX0_resize_38 ⟨Nat.le_of_ble_eq_true rfl, Nat.le_of_ble_eq_true rfl⟩ (fun res u9 H locs hp9 hz => ?_)
    replace hz := gs_unnil hz
    rw [hp9.1] at hz
    refine gs_eq (y := nI (hs_gl S (k + 1))) (hp9.2) ?_
    clear hp9
    refine lv_icmp_gt (tgt := 52) C0.1.1 C0.1.2.1 dX0_resize_41 (by decide) (fun c2 => ?_) (fun c2 => ?_)
    · skip
      have hlt : ¬ n ≤ hs_n S h + hs_fb S h := fun z => (hcmp.mpr z) c2
      rw [if_neg hlt] at hsp
      refine lv_aload_n C0.1.1 C0.1.2.1 dX0_resize_52 rfl (lv_at hl 0 rfl) ?_
      refine lv_iload_n C0.1.1 C0.1.2.1 dX0_resize_53 rfl (lv_at hl 1 rfl) ?_
      refine gs_callVi (w := xw G q) (wr := []) C0.1 (k_isMovable l G q r h hh) (cwV 1 C0.1.2.2.2.2 gX0_resize_X0_isMovable rfl rfl rfl (by decide +kernel) ⟨Nat.le_of_ble_eq_true rfl, Nat.le_of_ble_eq_true rfl⟩) (ci := 0) rfl rfl rfl (gs_nil hz) rfl hl.1 rfl (Nat.le_of_ble_eq_true rfl) dX0_resize_54 ⟨Nat.le_of_ble_eq_true rfl, Nat.le_of_ble_eq_true rfl⟩ (fun res u9 H locs hp9 hz => ?_)
      replace hz := gs_unnil hz
      rw [hp9.1] at hz
      refine gs_eq (y := bI (hs_mv S h)) (by rw [hp9.2, hfl.1, hfl.2.1]; unfold hs_mv; cases hs_f S h <;> cases hs_l S h <;> rfl) ?_
      clear hp9
      refine lv_if_eq (tgt := 73) C0.1.1 C0.1.2.1 dX0_resize_57 (by decide) (fun c3 => ?_) (fun c3 => ?_)
      · skip
        rw [bI_0] at c3
        rw [if_neg (by rw [c3]; decide)] at hsp
        refine lv_iconst (v := nI 0) C0.1.1 C0.1.2.1 dX0_resize_73 (by decide) ?_
        exact vx_ret (gs_retz r C0 hz (by decide) (px_of hsp rfl hS) (Nat.le_of_ble_eq_true rfl) (Nat.le_of_ble_eq_true rfl) dX0_resize_74)
      · skip
        rw [bI_0] at c3
        rw [if_pos (by simpa using c3)] at hsp
        refine lv_aload_n C0.1.1 C0.1.2.1 dX0_resize_60 rfl (lv_at hl 0 rfl) ?_
        refine lv_iload_n C0.1.1 C0.1.2.1 dX0_resize_61 rfl (lv_at hl 1 rfl) ?_
        refine lv_iload_n C0.1.1 C0.1.2.1 dX0_resize_62 rfl (lv_at hl 2 rfl) ?_
        refine gs_callVi (w := xw G q) (wr := []) C0.1 (k_growElsewhere l G q r S hS hI h n hh hu3 (by omega) h2) (cwV 2 C0.1.2.2.2.2 gX0_resize_X0_growElsewhere rfl rfl rfl (by decide +kernel) ⟨Nat.le_of_ble_eq_true rfl, Nat.le_of_ble_eq_true rfl⟩) (ci := 0) rfl rfl rfl (gs_nil hz) rfl hl.1 rfl (Nat.le_of_ble_eq_true rfl) dX0_resize_63 ⟨Nat.le_of_ble_eq_true rfl, Nat.le_of_ble_eq_true rfl⟩ (fun res u H locs hp hz => ?_)
        replace hz := gs_unnil hz
        rcases op_cases (hs_room S n h).2 with ⟨k2, ho⟩ | ho
        · skip
          obtain ⟨e1, e2⟩ := hp.1 k2 ho
          refine gs_eq (y := nI 1) e1 ?_
          refine lv_if_eq (tgt := 73) C0.1.1 C0.1.2.1 dX0_resize_66 (by decide) (fun c4 => ?_) (fun c4 => ?_)
          · rw [n0_eq (by omega)] at c4
            exact absurd c4 (by decide)
          · rw [n0_eq (by omega)] at c4
            refine lv_iconst (v := nI 1) C0.1.1 C0.1.2.1 dX0_resize_69 (by decide) ?_
            refine lv_goto (tgt := 74) C0.1.1 C0.1.2.1 dX0_resize_70 (by decide) ?_
            exact vx_ret (gs_retz u C0 hz (by decide) (px_of (hsp.trans (sp_gr_s ho)) rfl e2) (Nat.le_of_ble_eq_true rfl) (Nat.le_of_ble_eq_true rfl) dX0_resize_74)
        · skip
          obtain ⟨e1, e2⟩ := hp.2 ho
          refine gs_eq (y := nI 0) e1 ?_
          refine lv_if_eq (tgt := 73) C0.1.1 C0.1.2.1 dX0_resize_66 (by decide) (fun c4 => ?_) (fun c4 => ?_)
          · rw [n0_eq (by omega)] at c4
            refine lv_iconst (v := nI 0) C0.1.1 C0.1.2.1 dX0_resize_73 (by decide) ?_
            exact vx_ret (gs_retz u C0 hz (by decide) (px_of (hsp.trans (sp_gr_n ho)) rfl e2) (Nat.le_of_ble_eq_true rfl) (Nat.le_of_ble_eq_true rfl) dX0_resize_74)
          · rw [n0_eq (by omega)] at c4
            exact absurd rfl c4
    · skip
      have hle := hcmp.mp c2
      rw [if_pos hle] at hsp
      rw [hfb] at hle
      refine lv_aload_n C0.1.1 C0.1.2.1 dX0_resize_44 rfl (lv_at hl 0 rfl) ?_
      refine lv_iload_n C0.1.1 C0.1.2.1 dX0_resize_45 rfl (lv_at hl 1 rfl) ?_
      refine lv_iload_n C0.1.1 C0.1.2.1 dX0_resize_46 rfl (lv_at hl 2 rfl) ?_
      refine gs_callVv (w := xw G q) (wr := []) C0.1 (k_setLength l G q r h (hs_b S h) (hs_n S h) n hh ((hS.1 h hh).trans (xb_2 hu3)) (hS.2.1 h hh) hbn.1 (by omega)) (cwV 2 C0.1.2.2.2.2 gX0_resize_X0_setLength rfl rfl rfl (by decide +kernel) ⟨Nat.le_of_ble_eq_true rfl, Nat.le_of_ble_eq_true rfl⟩) (ci := 0) rfl rfl rfl (gs_nil hz) rfl hl.1 rfl (Nat.le_of_ble_eq_true rfl) dX0_resize_47 ⟨Nat.le_of_ble_eq_true rfl, Nat.le_of_ble_eq_true rfl⟩ (fun u H locs hp hz => ?_)
      replace hz := gs_unnil hz
      refine lv_iconst (v := nI 1) C0.1.1 C0.1.2.1 dX0_resize_50 (by decide) ?_
      exact vx_ret (gs_retz u C0 hz (by decide) (px_of hsp rfl (by rw [hp]; exact rx_sz hS hh hu3 (fun g hg hne hug => by have := hfm g hg hne hug; omega))) (Nat.le_of_ble_eq_true rfl) (Nat.le_of_ble_eq_true rfl) dX0_resize_51)
  · skip
    rw [xb_m2 (hI.b2 hh) (hI.u2 hh)] at c1
    rw [if_pos c1] at hsp
    refine lv_aload_n C0.1.1 C0.1.2.1 dX0_resize_20 rfl (lv_at hl 0 rfl) ?_
    refine lv_iload_n C0.1.1 C0.1.2.1 dX0_resize_21 rfl (lv_at hl 1 rfl) ?_
    refine lv_iload_n C0.1.1 C0.1.2.1 dX0_resize_22 rfl (lv_at hl 2 rfl) ?_
    refine lv_iconst (v := nI 0) C0.1.1 C0.1.2.1 dX0_resize_23 (by decide) ?_
    refine gs_eq (y := bI false) (rfl) ?_
    refine gs_callVi (w := xw G q) (wr := []) C0.1 (k_makeBlock l G q r S hS hI h n false hh (by omega) h1 h2) (cwV 3 C0.1.2.2.2.2 gX0_resize_X0_makeBlock rfl rfl rfl (by decide +kernel) ⟨Nat.le_of_ble_eq_true rfl, Nat.le_of_ble_eq_true rfl⟩) (ci := 0) rfl rfl rfl (gs_nil hz) rfl hl.1 rfl (Nat.le_of_ble_eq_true rfl) dX0_resize_24 ⟨Nat.le_of_ble_eq_true rfl, Nat.le_of_ble_eq_true rfl⟩ (fun res u H locs hp hz => ?_)
    replace hz := gs_unnil hz
    rcases op_cases (hs_room S n 48).2 with ⟨k, ho⟩ | ho
    · skip
      obtain ⟨e1, e2⟩ := hp.1 k ho
      refine gs_eq (y := nI 1) e1 ?_
      exact vx_ret (gs_retz u C0 hz (by decide) (px_of (hsp.trans (sp_mk_s ho)) rfl e2) (Nat.le_of_ble_eq_true rfl) (Nat.le_of_ble_eq_true rfl) dX0_resize_27)
    · skip
      obtain ⟨e1, e2⟩ := hp.2 ho
      refine gs_eq (y := nI 0) e1 ?_
      exact vx_ret (gs_retz u C0 hz (by decide) (px_of (hsp.trans (sp_mk_n ho)) rfl e2) (Nat.le_of_ble_eq_true rfl) (Nat.le_of_ble_eq_true rfl) dX0_resize_27)
set_option maxHeartbeats 4000000 in
set_option maxRecDepth 100000 in
/-- lock -/
theorem k_lock (l : Launch) (hst : l.stackTraces = false) (G : gs_G) (q : Nat → Nat) (r : xr) (S : hs_S) (hS : rx S r) (hI : hs_I S) (x : Int32) (v : Bool) : gx_i l yX0_lock wsX0_lock (gm_rm 10 4 24) G (xw G q) r [.ref (q 0), .int x, .int (bI v)] (fun res u => px (sp_lock S x v) res u) (fun E => (sp_lock S x v).1 ≠ 0 ∧ ex (sp_lock S x v).1 E) 4 24 := by
  refine gx_i.of (cc := cX0_lock) (nL := 4) (ret := (some .boolean)) (by decide +kernel) rfl (Nat.le_of_ble_eq_true rfl) ?_
  intro p e s m args below meth c ls C0 hz hxz hl
  have hin : ∀ w ∈ wsX00, w ∈ wsX0_lock := by decide +kernel
  have l_lk : Cond.fieldLink RX0 29 "HandleHeap" "isLocked" "[Z" ∈ wsX0_lock := by decide +kernel
  have hl : lv_has ls 4 [(0, .ref (q 0)), (1, .int x), (2, .int (bI v))] := hl
  refine lv_aload_n C0.1.1 C0.1.2.1 dX0_lock_0 rfl (lv_at hl 0 rfl) ?_
  refine lv_iload_n C0.1.1 C0.1.2.1 dX0_lock_1 rfl (lv_at hl 1 rfl) ?_
  refine gx_callVv (w := xw G q) (wr := []) C0.1 (k_checkHasBlock l hst G q r S hS hI x) (cwV 1 C0.1.2.2.2.2 gX0_lock_X0_checkHasBlock rfl rfl rfl (by decide +kernel) ⟨Nat.le_of_ble_eq_true rfl, Nat.le_of_ble_eq_true rfl⟩) (ci := 0) rfl rfl rfl (gs_nil hz) hxz rfl hl.1 rfl (Nat.le_of_ble_eq_true rfl) dX0_lock_2 ⟨Nat.le_of_ble_eq_true rfl, Nat.le_of_ble_eq_true rfl⟩ (fun E ce q9 H locs hE hz hce hcv hcl => gs_pass C0 (sp_has_x hE) (gs_unnil hz) hce hcv hcl (Nat.le_of_ble_eq_true rfl) (Nat.le_of_ble_eq_true rfl)) (fun u9 H locs hp9 hz => ?_)
  replace hz := gs_unnil hz
  rw [hp9.1] at hz
  obtain ⟨-, h, hh, rfl, hu⟩ := hp9
  refine lv_aload_n C0.1.1 C0.1.2.1 dX0_lock_5 rfl (lv_at hl 0 rfl) ?_
  refine xg_lk C0 hin hz l_lk dX0_lock_6 ?_
  refine lv_iload_n C0.1.1 C0.1.2.1 dX0_lock_9 rfl (lv_at hl 1 rfl) ?_
  refine xl_lk C0 hz h (by omega) rfl dX0_lock_10 ?_
  refine gs_eq (y := bI (hs_l S h)) ((hS.2.2.1 h hh hu).2.1) ?_
  refine lv_istore_n (lv' := [(3, .int (bI (hs_l S h))), (0, .ref (q 0)), (1, .int (nI h)), (2, .int (bI v))]) C0.1.1 C0.1.2.1 dX0_lock_11 rfl hl (by decide) rfl (fun ls hl => ?_)
  refine lv_aload_n C0.1.1 C0.1.2.1 dX0_lock_12 rfl (lv_at hl 1 rfl) ?_
  refine xg_lk C0 hin hz l_lk dX0_lock_13 ?_
  refine lv_iload_n C0.1.1 C0.1.2.1 dX0_lock_16 rfl (lv_at hl 2 rfl) ?_
  refine lv_iload_n C0.1.1 C0.1.2.1 dX0_lock_17 rfl (lv_at hl 3 rfl) ?_
  refine xt_lk C0 hz h (by omega) rfl (bI_nar _) dX0_lock_18 (fun H locs hz => ?_)
  refine lv_iload_n C0.1.1 C0.1.2.1 dX0_lock_19 rfl (lv_at hl 0 rfl) ?_
  exact vx_ret (gs_retz (xs_lk r (upd (x_lk r) h (bI v))) C0 hz (bI_nar _) (px_of (sp_has_h hh hu) rfl (rx_lk hS)) (Nat.le_of_ble_eq_true rfl) (Nat.le_of_ble_eq_true rfl) dX0_lock_20)
set_option maxHeartbeats 4000000 in
set_option maxRecDepth 100000 in
/-- losable -/
theorem k_losable (l : Launch) (hst : l.stackTraces = false) (G : gs_G) (q : Nat → Nat) (r : xr) (S : hs_S) (hS : rx S r) (hI : hs_I S) (x : Int32) (v : Bool) : gx_i l yX0_losable wsX0_losable (gm_rm 10 4 24) G (xw G q) r [.ref (q 0), .int x, .int (bI v)] (fun res u => px (sp_losable S x v) res u) (fun E => (sp_losable S x v).1 ≠ 0 ∧ ex (sp_losable S x v).1 E) 4 24 := by
  refine gx_i.of (cc := cX0_losable) (nL := 4) (ret := (some .boolean)) (by decide +kernel) rfl (Nat.le_of_ble_eq_true rfl) ?_
  intro p e s m args below meth c ls C0 hz hxz hl
  have hin : ∀ w ∈ wsX00, w ∈ wsX0_losable := by decide +kernel
  have l_ls : Cond.fieldLink RX0 32 "HandleHeap" "isLosable" "[Z" ∈ wsX0_losable := by decide +kernel
  have hl : lv_has ls 4 [(0, .ref (q 0)), (1, .int x), (2, .int (bI v))] := hl
  refine lv_aload_n C0.1.1 C0.1.2.1 dX0_losable_0 rfl (lv_at hl 0 rfl) ?_
  refine lv_iload_n C0.1.1 C0.1.2.1 dX0_losable_1 rfl (lv_at hl 1 rfl) ?_
  refine gx_callVv (w := xw G q) (wr := []) C0.1 (k_checkHasBlock l hst G q r S hS hI x) (cwV 1 C0.1.2.2.2.2 gX0_losable_X0_checkHasBlock rfl rfl rfl (by decide +kernel) ⟨Nat.le_of_ble_eq_true rfl, Nat.le_of_ble_eq_true rfl⟩) (ci := 0) rfl rfl rfl (gs_nil hz) hxz rfl hl.1 rfl (Nat.le_of_ble_eq_true rfl) dX0_losable_2 ⟨Nat.le_of_ble_eq_true rfl, Nat.le_of_ble_eq_true rfl⟩ (fun E ce q9 H locs hE hz hce hcv hcl => gs_pass C0 (sp_has_x hE) (gs_unnil hz) hce hcv hcl (Nat.le_of_ble_eq_true rfl) (Nat.le_of_ble_eq_true rfl)) (fun u9 H locs hp9 hz => ?_)
  replace hz := gs_unnil hz
  rw [hp9.1] at hz
  obtain ⟨-, h, hh, rfl, hu⟩ := hp9
  refine lv_aload_n C0.1.1 C0.1.2.1 dX0_losable_5 rfl (lv_at hl 0 rfl) ?_
  refine xg_ls C0 hin hz l_ls dX0_losable_6 ?_
  refine lv_iload_n C0.1.1 C0.1.2.1 dX0_losable_9 rfl (lv_at hl 1 rfl) ?_
  refine xl_ls C0 hz h (by omega) rfl dX0_losable_10 ?_
  refine gs_eq (y := bI (hs_o S h)) ((hS.2.2.1 h hh hu).2.2) ?_
  refine lv_istore_n (lv' := [(3, .int (bI (hs_o S h))), (0, .ref (q 0)), (1, .int (nI h)), (2, .int (bI v))]) C0.1.1 C0.1.2.1 dX0_losable_11 rfl hl (by decide) rfl (fun ls hl => ?_)
  refine lv_aload_n C0.1.1 C0.1.2.1 dX0_losable_12 rfl (lv_at hl 1 rfl) ?_
  refine xg_ls C0 hin hz l_ls dX0_losable_13 ?_
  refine lv_iload_n C0.1.1 C0.1.2.1 dX0_losable_16 rfl (lv_at hl 2 rfl) ?_
  refine lv_iload_n C0.1.1 C0.1.2.1 dX0_losable_17 rfl (lv_at hl 3 rfl) ?_
  refine xt_ls C0 hz h (by omega) rfl (bI_nar _) dX0_losable_18 (fun H locs hz => ?_)
  refine lv_iload_n C0.1.1 C0.1.2.1 dX0_losable_19 rfl (lv_at hl 0 rfl) ?_
  exact vx_ret (gs_retz (xs_ls r (upd (x_ls r) h (bI v))) C0 hz (bI_nar _) (px_of (sp_has_h hh hu) rfl (rx_ls hS)) (Nat.le_of_ble_eq_true rfl) (Nat.le_of_ble_eq_true rfl) dX0_losable_20)
set_option maxHeartbeats 4000000 in
set_option maxRecDepth 100000 in
/-- lose -/
theorem k_lose (l : Launch) (hst : l.stackTraces = false) (G : gs_G) (q : Nat → Nat) (r : xr) (S : hs_S) (hS : rx S r) (hI : hs_I S) (x : Int32) : gx_i l yX0_lose wsX0_lose (gm_rm 10 4 24) G (xw G q) r [.ref (q 0), .int x] (fun res u => px (sp_lose S x) res u) (fun E => (sp_lose S x).1 ≠ 0 ∧ ex (sp_lose S x).1 E) 4 24 := by
  refine gx_i.of (cc := cX0_lose) (nL := 2) (ret := (some .boolean)) (by decide +kernel) rfl (Nat.le_of_ble_eq_true rfl) ?_
  intro p e s m args below meth c ls C0 hz hxz hl
  have hl : lv_has ls 2 [(0, .ref (q 0)), (1, .int x)] := hl
  refine lv_aload_n C0.1.1 C0.1.2.1 dX0_lose_0 rfl (lv_at hl 0 rfl) ?_
  refine lv_iload_n C0.1.1 C0.1.2.1 dX0_lose_1 rfl (lv_at hl 1 rfl) ?_
  refine gx_callVv (w := xw G q) (wr := []) C0.1 (k_checkHasBlock l hst G q r S hS hI x) (cwV 1 C0.1.2.2.2.2 gX0_lose_X0_checkHasBlock rfl rfl rfl (by decide +kernel) ⟨Nat.le_of_ble_eq_true rfl, Nat.le_of_ble_eq_true rfl⟩) (ci := 0) rfl rfl rfl (gs_nil hz) hxz rfl hl.1 rfl (Nat.le_of_ble_eq_true rfl) dX0_lose_2 ⟨Nat.le_of_ble_eq_true rfl, Nat.le_of_ble_eq_true rfl⟩ (fun E ce q9 H locs hE hz hce hcv hcl => gs_pass C0 (sp_has_x hE) (gs_unnil hz) hce hcv hcl (Nat.le_of_ble_eq_true rfl) (Nat.le_of_ble_eq_true rfl)) (fun u9 H locs hp9 hz => ?_)
  replace hz := gs_unnil hz
  rw [hp9.1] at hz
  obtain ⟨-, h, hh, rfl, hu⟩ := hp9
  have hfl := hS.2.2.1 h hh hu
  have hsp : sp_lose S (nI h) = if hs_mv S h = true then (0, nI 1, hs_gu S h) else (0, nI 0, S) := sp_has_h hh hu
  refine lv_aload_n C0.1.1 C0.1.2.1 dX0_lose_5 rfl (lv_at hl 0 rfl) ?_
  refine lv_iload_n C0.1.1 C0.1.2.1 dX0_lose_6 rfl (lv_at hl 1 rfl) ?_
  refine gs_callVi (w := xw G q) (wr := []) C0.1 (k_isMovable l G q r h hh) (cwV 1 C0.1.2.2.2.2 gX0_lose_X0_isMovable rfl rfl rfl (by decide +kernel) ⟨Nat.le_of_ble_eq_true rfl, Nat.le_of_ble_eq_true rfl⟩) (ci := 0) rfl rfl rfl (gs_nil hz) rfl hl.1 rfl (Nat.le_of_ble_eq_true rfl) dX0_lose_7 ⟨Nat.le_of_ble_eq_true rfl, Nat.le_of_ble_eq_true rfl⟩ (fun res u9 H locs hp9 hz => ?_)
  replace hz := gs_unnil hz
  rw [hp9.1] at hz
  refine gs_eq (y := bI (hs_mv S h)) (by rw [hp9.2, hfl.1, hfl.2.1]; unfold hs_mv; cases hs_f S h <;> cases hs_l S h <;> rfl) ?_
  clear hp9
  refine lv_if_ne (tgt := 15) C0.1.1 C0.1.2.1 dX0_lose_10 (by decide) (fun c3 => ?_) (fun c3 => ?_)
  · skip
    rw [bI_0] at c3
    rw [if_pos (by simpa using c3)] at hsp
    refine lv_aload_n C0.1.1 C0.1.2.1 dX0_lose_15 rfl (lv_at hl 0 rfl) ?_
    refine lv_iload_n C0.1.1 C0.1.2.1 dX0_lose_16 rfl (lv_at hl 1 rfl) ?_
    refine gs_callVv (w := xw G q) (wr := []) C0.1 (k_giveUp l G q r S hS hI.J h hh) (cwV 1 C0.1.2.2.2.2 gX0_lose_X0_giveUp rfl rfl rfl (by decide +kernel) ⟨Nat.le_of_ble_eq_true rfl, Nat.le_of_ble_eq_true rfl⟩) (ci := 0) rfl rfl rfl (gs_nil hz) rfl hl.1 rfl (Nat.le_of_ble_eq_true rfl) dX0_lose_17 ⟨Nat.le_of_ble_eq_true rfl, Nat.le_of_ble_eq_true rfl⟩ (fun u H locs hp hz => ?_)
    replace hz := gs_unnil hz
    refine lv_iconst (v := nI 1) C0.1.1 C0.1.2.1 dX0_lose_20 (by decide) ?_
    exact vx_ret (gs_retz u C0 hz (by decide) (px_of hsp rfl hp) (Nat.le_of_ble_eq_true rfl) (Nat.le_of_ble_eq_true rfl) dX0_lose_21)
  · skip
    rw [bI_0] at c3
    rw [if_neg (by rw [c3]; decide)] at hsp
    refine lv_iconst (v := nI 0) C0.1.1 C0.1.2.1 dX0_lose_13 (by decide) ?_
    exact vx_ret (gs_retz r C0 hz (by decide) (px_of hsp rfl hS) (Nat.le_of_ble_eq_true rfl) (Nat.le_of_ble_eq_true rfl) dX0_lose_14)
set_option maxHeartbeats 4000000 in
set_option maxRecDepth 100000 in
/-- lift -/
theorem k_lift (l : Launch) (hst : l.stackTraces = false) (G : gs_G) (q : Nat → Nat) (r : xr) (S : hs_S) (hS : rx S r) (hI : hs_I S) (x : Int32) : gx_i l yX0_lift wsX0_lift (gm_rm 10 4 24) G (xw G q) r [.ref (q 0), .int x] (fun res u => px (sp_lift S x) res u) (fun E => (sp_lift S x).1 ≠ 0 ∧ ex (sp_lift S x).1 E) 4 24 := by
  refine gx_i.of (cc := cX0_lift) (nL := 3) (ret := (some .int)) (by decide +kernel) rfl (Nat.le_of_ble_eq_true rfl) ?_
  intro p e s m args below meth c ls C0 hz hxz hl
  have hin : ∀ w ∈ wsX00, w ∈ wsX0_lift := by decide +kernel
  have l_bg : Cond.fieldLink RX0 13 "HandleHeap" "begin" "[I" ∈ wsX0_lift := by decide +kernel
  have hl : lv_has ls 3 [(0, .ref (q 0)), (1, .int x)] := hl
  refine lv_aload_n C0.1.1 C0.1.2.1 dX0_lift_0 rfl (lv_at hl 0 rfl) ?_
  refine lv_iload_n C0.1.1 C0.1.2.1 dX0_lift_1 rfl (lv_at hl 1 rfl) ?_
  refine gx_callVv (w := xw G q) (wr := []) C0.1 (k_checkHasBlock l hst G q r S hS hI x) (cwV 1 C0.1.2.2.2.2 gX0_lift_X0_checkHasBlock rfl rfl rfl (by decide +kernel) ⟨Nat.le_of_ble_eq_true rfl, Nat.le_of_ble_eq_true rfl⟩) (ci := 0) rfl rfl rfl (gs_nil hz) hxz rfl hl.1 rfl (Nat.le_of_ble_eq_true rfl) dX0_lift_2 ⟨Nat.le_of_ble_eq_true rfl, Nat.le_of_ble_eq_true rfl⟩ (fun E ce q9 H locs hE hz hce hcv hcl => gs_pass C0 (sp_has_x hE) (gs_unnil hz) hce hcv hcl (Nat.le_of_ble_eq_true rfl) (Nat.le_of_ble_eq_true rfl)) (fun u9 H locs hp9 hz => ?_)
  replace hz := gs_unnil hz
  rw [hp9.1] at hz
  obtain ⟨-, h, hh, rfl, hu⟩ := hp9
  have hfl := hS.2.2.1 h hh hu
  have hsp : sp_lift S (nI h) = if hs_mv S h = true then (0, nI (hs_fb S h), hs_go S h (hs_b S h + hs_fb S h)) else (2, 0, S) := sp_has_h hh hu
  obtain ⟨hk, hkat⟩ := hg_ix_ok ((hI.2.1 h).mpr ⟨hh, hu⟩)
  obtain ⟨k, ek⟩ : ∃ z, z = hg_ix h (hs_R S) := ⟨_, rfl⟩
  rw [← ek] at hk hkat
  have hfb : hs_fb S h = hs_gl S (k + 1) := by unfold hs_fb; rw [ek]
  have hbn := hI.bn hh hu
  have hge : hg_gb (hs_R S) (hs_b S) (hs_n S) (k + 1) ≤ hg_ge (hs_R S) (hs_b S) (k + 1) := hI.1.1 (k + 1) (by omega)
  have hge2 := hg_gele hI.1 (k := k + 1) (by omega)
  have hgl : hs_gl S (k + 1) = hg_ge (hs_R S) (hs_b S) (k + 1) - (hs_b S h + hs_n S h) := by unfold hs_gl hg_gl; rw [hg_gbs, hkat]
  rw [hg_gbs, hkat] at hge
  have hfm : ∀ g, g < 48 → g ≠ h → hs_u S g = 2 → hs_b S g + hs_n S g ≤ hs_b S h ∨ hg_ge (hs_R S) (hs_b S) (k + 1) ≤ hs_b S g := by
    have := hs_near_d hI hk
    rw [hkat] at this
    exact this
  have hcal : gm_i l yX0_freeBehind wsX0_freeBehind (gm_rm 4 0 0) G (xw G q) r [.ref (q 0), .int (nI h)] (fun res u => u = r ∧ res = nI (hs_gl S (k + 1))) 0 0 := by
    have := k_freeBehind l G q r S hS hI.J k hk
    rw [hkat] at this
    exact this
  refine lv_aload_n C0.1.1 C0.1.2.1 dX0_lift_5 rfl (lv_at hl 0 rfl) ?_
  refine lv_iload_n C0.1.1 C0.1.2.1 dX0_lift_6 rfl (lv_at hl 1 rfl) ?_
  refine gs_callVi (w := xw G q) (wr := []) C0.1 (k_isMovable l G q r h hh) (cwV 1 C0.1.2.2.2.2 gX0_lift_X0_isMovable rfl rfl rfl (by decide +kernel) ⟨Nat.le_of_ble_eq_true rfl, Nat.le_of_ble_eq_true rfl⟩) (ci := 0) rfl rfl rfl (gs_nil hz) rfl hl.1 rfl (Nat.le_of_ble_eq_true rfl) dX0_lift_7 ⟨Nat.le_of_ble_eq_true rfl, Nat.le_of_ble_eq_true rfl⟩ (fun res u9 H locs hp9 hz => ?_)
  replace hz := gs_unnil hz
  rw [hp9.1] at hz
  refine gs_eq (y := bI (hs_mv S h)) (by rw [hp9.2, hfl.1, hfl.2.1]; unfold hs_mv; cases hs_f S h <;> cases hs_l S h <;> rfl) ?_
  clear hp9
  refine lv_if_ne (tgt := 23) C0.1.1 C0.1.2.1 dX0_lift_10 (by decide) (fun c3 => ?_) (fun c3 => ?_)
  · skip
    rw [bI_0] at c3
    rw [if_pos (by simpa using c3), hfb] at hsp
    refine lv_aload_n C0.1.1 C0.1.2.1 dX0_lift_23 rfl (lv_at hl 0 rfl) ?_
    refine lv_iload_n C0.1.1 C0.1.2.1 dX0_lift_24 rfl (lv_at hl 1 rfl) ?_
    refine gs_callVi (w := xw G q) (wr := []) C0.1 (hcal) (cwV 1 C0.1.2.2.2.2 gX0_lift_X0_freeBehind rfl rfl rfl (by decide +kernel) ⟨Nat.le_of_ble_eq_true rfl, Nat.le_of_ble_eq_true rfl⟩) (ci := 0) rfl rfl rfl (gs_nil hz) rfl hl.1 rfl (Nat.le_of_ble_eq_true rfl) dX0_lift_25 ⟨Nat.le_of_ble_eq_true rfl, Nat.le_of_ble_eq_true rfl⟩ (fun res u9 H locs hp9 hz => ?_)
    replace hz := gs_unnil hz
    rw [hp9.1] at hz
    refine gs_eq (y := nI (hs_gl S (k + 1))) (hp9.2) ?_
    clear hp9
    refine lv_istore_n (lv' := [(2, .int (nI (hs_gl S (k + 1)))), (0, .ref (q 0)), (1, .int (nI h))]) C0.1.1 C0.1.2.1 dX0_lift_28 rfl hl (by decide) rfl (fun ls hl => ?_)
    refine lv_aload_n C0.1.1 C0.1.2.1 dX0_lift_29 rfl (lv_at hl 1 rfl) ?_
    refine lv_iload_n C0.1.1 C0.1.2.1 dX0_lift_30 rfl (lv_at hl 2 rfl) ?_
    refine lv_aload_n C0.1.1 C0.1.2.1 dX0_lift_31 rfl (lv_at hl 1 rfl) ?_
    refine xg_bg C0 hin hz l_bg dX0_lift_32 ?_
    refine lv_iload_n C0.1.1 C0.1.2.1 dX0_lift_35 rfl (lv_at hl 2 rfl) ?_
    refine xl_bg C0 hz h (by omega) rfl dX0_lift_36 ?_
    refine gs_eq (y := nI (hs_b S h)) ((hS.1 h hh).trans (xb_2 hu)) ?_
    refine lv_iload_n C0.1.1 C0.1.2.1 dX0_lift_37 rfl (lv_at hl 0 rfl) ?_
    refine lv_iadd C0.1.1 C0.1.2.1 dX0_lift_38 ?_
    refine gs_eq (nI_add (hs_b S h) (hs_gl S (k + 1))) ?_
    refine gs_callVv (w := xw G q) (wr := []) C0.1 (k_moveTo l G q r h (hs_b S h) (hs_n S h) (hs_b S h + hs_gl S (k + 1)) hh ((hS.1 h hh).trans (xb_2 hu)) (hS.2.1 h hh) hbn.1 (by omega)) (cwV 2 C0.1.2.2.2.2 gX0_lift_X0_moveTo rfl rfl rfl (by decide +kernel) ⟨Nat.le_of_ble_eq_true rfl, Nat.le_of_ble_eq_true rfl⟩) (ci := 0) rfl rfl rfl (gs_nil hz) rfl hl.1 rfl (Nat.le_of_ble_eq_true rfl) dX0_lift_39 ⟨Nat.le_of_ble_eq_true rfl, Nat.le_of_ble_eq_true rfl⟩ (fun u H locs hp hz => ?_)
    replace hz := gs_unnil hz
    refine lv_iload_n C0.1.1 C0.1.2.1 dX0_lift_42 rfl (lv_at hl 0 rfl) ?_
    exact vx_ret (gs_reti u C0 hz (px_of hsp rfl (by rw [hp]; exact rx_go hS hh hu (fun g hg hne hug => by have := hfm g hg hne hug; omega))) (Nat.le_of_ble_eq_true rfl) (Nat.le_of_ble_eq_true rfl) dX0_lift_43)
  · skip
    rw [bI_0] at c3
    rw [if_neg (by rw [c3]; decide)] at hsp
    exact gs_throw (cls := "java/lang/IllegalStateException") (text := "the block is not movable") C0 hst hz hxz (ex2 hsp rfl) (Or.inr (Or.inl rfl)) (by decide) (C0.1.2.2.2.2 (.classLink RX0 88 "java/lang/IllegalStateException") (by decide +kernel)) (C0.1.2.2.2.2 (.initialized "java/lang/IllegalStateException") (by decide +kernel)) (fun w hw => C0.1.2.2.2.2 w (List.mem_cons_of_mem _ (List.mem_append_left _ (List.mem_append_left _ (List.mem_append_right _ (hw)))))) (by decide +kernel) (by decide +kernel) hl.1 dX0_lift_13 dX0_lift_16 dX0_lift_17 dX0_lift_19 dX0_lift_22 (Nat.le_of_ble_eq_true rfl) (Nat.le_of_ble_eq_true rfl) (Nat.le_of_ble_eq_true rfl) (Nat.le_of_ble_eq_true rfl) (Nat.le_of_ble_eq_true rfl) (Nat.le_of_ble_eq_true rfl)
set_option maxHeartbeats 4000000 in
set_option maxRecDepth 100000 in
/-- slide -/
theorem k_slide (l : Launch) (G : gs_G) (q : Nat → Nat) (r : xr) (S : hs_S) (hS : rx S r) (hI : hs_I S) : gm_i l yX0_slide wsX0_slide (gm_rm 10 0 0) G (xw G q) r [.ref (q 0)] (fun res u => px (sp_slide S) res u) 0 0 := by
  refine gm_i.of (cc := cX0_slide) (nL := 1) (ret := (some .int)) (by decide +kernel) rfl (Nat.le_of_ble_eq_true rfl) ?_
  intro p e s m args below meth c ls C0 hz hl
  have hl : lv_has ls 1 [(0, .ref (q 0))] := hl
  refine lv_aload_n C0.1.1 C0.1.2.1 dX0_slide_0 rfl (lv_at hl 0 rfl) ?_
  refine gs_callVv (w := xw G q) (wr := []) C0.1 (k_slideTogether l G q r S hS hI) (cwV 0 C0.1.2.2.2.2 gX0_slide_X0_slideTogether rfl rfl rfl (by decide +kernel) ⟨Nat.le_of_ble_eq_true rfl, Nat.le_of_ble_eq_true rfl⟩) (ci := 0) rfl rfl rfl (gs_nil hz) rfl hl.1 rfl (Nat.le_of_ble_eq_true rfl) dX0_slide_1 ⟨Nat.le_of_ble_eq_true rfl, Nat.le_of_ble_eq_true rfl⟩ (fun u H locs hp hz => ?_)
  replace hz := gs_unnil hz
  refine lv_aload_n C0.1.1 C0.1.2.1 dX0_slide_4 rfl (lv_at hl 0 rfl) ?_
  refine gs_callVi (w := xw G q) (wr := []) C0.1 (k_greatestGap l G q u (hs_sl S) hp (hs_sl_I hI).J) (cwV 0 C0.1.2.2.2.2 gX0_slide_X0_greatestGap rfl rfl rfl (by decide +kernel) ⟨Nat.le_of_ble_eq_true rfl, Nat.le_of_ble_eq_true rfl⟩) (ci := 0) rfl rfl rfl (gs_nil hz) rfl hl.1 rfl (Nat.le_of_ble_eq_true rfl) dX0_slide_5 ⟨Nat.le_of_ble_eq_true rfl, Nat.le_of_ble_eq_true rfl⟩ (fun res u9 H locs hp9 hz => ?_)
  replace hz := gs_unnil hz
  rw [hp9.1] at hz
  refine gs_eq (y := nI (hs_gg (hs_sl S))) (hp9.2) ?_
  clear hp9
  exact gs_reti u C0 hz (px_of rfl rfl hp) (Nat.le_of_ble_eq_true rfl) (Nat.le_of_ble_eq_true rfl) dX0_slide_8
set_option maxHeartbeats 4000000 in
set_option maxRecDepth 100000 in
/-- where -/
theorem k_where (l : Launch) (hst : l.stackTraces = false) (G : gs_G) (q : Nat → Nat) (r : xr) (S : hs_S) (hS : rx S r) (hI : hs_I S) (x : Int32) : gx_i l yX0_where wsX0_where (gm_rm 10 4 24) G (xw G q) r [.ref (q 0), .int x] (fun res u => px (sp_where S x) res u) (fun E => (sp_where S x).1 ≠ 0 ∧ ex (sp_where S x).1 E) 4 24 := by
  refine gx_i.of (cc := cX0_where) (nL := 2) (ret := (some .int)) (by decide +kernel) rfl (Nat.le_of_ble_eq_true rfl) ?_
  intro p e s m args below meth c ls C0 hz hxz hl
  have hin : ∀ w ∈ wsX00, w ∈ wsX0_where := by decide +kernel
  have l_bg : Cond.fieldLink RX0 13 "HandleHeap" "begin" "[I" ∈ wsX0_where := by decide +kernel
  have hl : lv_has ls 2 [(0, .ref (q 0)), (1, .int x)] := hl
  refine lv_iload_n C0.1.1 C0.1.2.1 dX0_where_0 rfl (lv_at hl 1 rfl) ?_
  refine gx_callSv (w := xw G q) (wr := []) C0.1 (k_checkHandle l hst G q r x) (va_cwS 1 C0.1.2.2.2.2 gX0_where_X0_checkHandle rfl rfl rfl (by decide +kernel) ⟨Nat.le_of_ble_eq_true rfl, Nat.le_of_ble_eq_true rfl⟩) (gs_nil hz) hxz rfl hl.1 rfl (Nat.le_of_ble_eq_true rfl) dX0_where_1 ⟨Nat.le_of_ble_eq_true rfl, Nat.le_of_ble_eq_true rfl⟩ (fun E ce q9 H locs hE hz hce hcv hcl => gs_pass C0 (ex1 (sp_where_x hE.2) hE.1) (gs_unnil hz) hce hcv hcl (Nat.le_of_ble_eq_true rfl) (Nat.le_of_ble_eq_true rfl)) (fun u9 H locs hp9 hz => ?_)
  replace hz := gs_unnil hz
  rw [hp9.1] at hz
  obtain ⟨-, h, hh, rfl⟩ := hp9
  refine lv_aload_n C0.1.1 C0.1.2.1 dX0_where_4 rfl (lv_at hl 0 rfl) ?_
  refine xg_bg C0 hin hz l_bg dX0_where_5 ?_
  refine lv_iload_n C0.1.1 C0.1.2.1 dX0_where_8 rfl (lv_at hl 1 rfl) ?_
  refine xl_bg C0 hz h (by omega) rfl dX0_where_9 ?_
  refine gs_eq (y := xb (hs_u S h) (hs_b S h)) (hS.1 h hh) ?_
  exact vx_ret (gs_reti r C0 hz (px_of (sp_where_h hh) rfl hS) (Nat.le_of_ble_eq_true rfl) (Nat.le_of_ble_eq_true rfl) dX0_where_10)
set_option maxHeartbeats 4000000 in
set_option maxRecDepth 100000 in
/-- size -/
theorem k_size (l : Launch) (hst : l.stackTraces = false) (G : gs_G) (q : Nat → Nat) (r : xr) (S : hs_S) (hS : rx S r) (hI : hs_I S) (x : Int32) : gx_i l yX0_size wsX0_size (gm_rm 10 4 24) G (xw G q) r [.ref (q 0), .int x] (fun res u => px (sp_size S x) res u) (fun E => (sp_size S x).1 ≠ 0 ∧ ex (sp_size S x).1 E) 4 24 := by
  refine gx_i.of (cc := cX0_size) (nL := 2) (ret := (some .int)) (by decide +kernel) rfl (Nat.le_of_ble_eq_true rfl) ?_
  intro p e s m args below meth c ls C0 hz hxz hl
  have hin : ∀ w ∈ wsX00, w ∈ wsX0_size := by decide +kernel
  have l_ln : Cond.fieldLink RX0 22 "HandleHeap" "length" "[I" ∈ wsX0_size := by decide +kernel
  have hl : lv_has ls 2 [(0, .ref (q 0)), (1, .int x)] := hl
  refine lv_iload_n C0.1.1 C0.1.2.1 dX0_size_0 rfl (lv_at hl 1 rfl) ?_
  refine gx_callSv (w := xw G q) (wr := []) C0.1 (k_checkHandle l hst G q r x) (va_cwS 1 C0.1.2.2.2.2 gX0_size_X0_checkHandle rfl rfl rfl (by decide +kernel) ⟨Nat.le_of_ble_eq_true rfl, Nat.le_of_ble_eq_true rfl⟩) (gs_nil hz) hxz rfl hl.1 rfl (Nat.le_of_ble_eq_true rfl) dX0_size_1 ⟨Nat.le_of_ble_eq_true rfl, Nat.le_of_ble_eq_true rfl⟩ (fun E ce q9 H locs hE hz hce hcv hcl => gs_pass C0 (ex1 (sp_size_x hE.2) hE.1) (gs_unnil hz) hce hcv hcl (Nat.le_of_ble_eq_true rfl) (Nat.le_of_ble_eq_true rfl)) (fun u9 H locs hp9 hz => ?_)
  replace hz := gs_unnil hz
  rw [hp9.1] at hz
  obtain ⟨-, h, hh, rfl⟩ := hp9
  refine lv_aload_n C0.1.1 C0.1.2.1 dX0_size_4 rfl (lv_at hl 0 rfl) ?_
  refine xg_ln C0 hin hz l_ln dX0_size_5 ?_
  refine lv_iload_n C0.1.1 C0.1.2.1 dX0_size_8 rfl (lv_at hl 1 rfl) ?_
  refine xl_ln C0 hz h (by omega) rfl dX0_size_9 ?_
  refine gs_eq (y := nI (hs_n S h)) (hS.2.1 h hh) ?_
  exact vx_ret (gs_reti r C0 hz (px_of (sp_size_h hh) rfl hS) (Nat.le_of_ble_eq_true rfl) (Nat.le_of_ble_eq_true rfl) dX0_size_10)
