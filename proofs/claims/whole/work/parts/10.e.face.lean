/-! HandleHeap: what a call refuses, and its face -/
set_option maxHeartbeats 4000000 in
set_option maxRecDepth 100000 in
/-- checkHandle -/
theorem k_checkHandle (l : Launch) (hst : l.stackTraces = false) (G : gs_G) (q : Nat → Nat) (r : xr) (x : Int32) : gx_v l yX0_checkHandle wsX0_checkHandle (gm_rm 6 1 6) G (xw G q) r [.int x] (fun u => u = r ∧ ∃ h, h < 48 ∧ x = nI h) (fun E => E = xIA ∧ ¬ ∃ h, h < 48 ∧ x = nI h) 1 6 := by
  refine gx_v.of (cc := cX0_checkHandle) (nL := 1) (ret := none) (by decide +kernel) rfl (Nat.le_of_ble_eq_true rfl) ?_
  intro p e s m args below meth c ls C0 hz hxz hl
  have hl : lv_has ls 1 [(0, .int x)] := hl
  refine lv_iload_n C0.1.1 C0.1.2.1 dX0_checkHandle_0 rfl (lv_at hl 0 rfl) ?_
  refine lv_if_lt (tgt := 10) C0.1.1 C0.1.2.1 dX0_checkHandle_1 (by decide) (fun c1 => ?_) (fun c1 => ?_)
  · skip
    exact gs_throw (cls := "java/lang/IllegalArgumentException") (text := "handle is not 0 to 47") C0 hst hz hxz (⟨rfl, fun ⟨h, h1, h2⟩ => by rw [h2] at c1; exact nI_pos (by omega) c1⟩) (Or.inl rfl) (by decide) (C0.1.2.2.2.2 (.classLink RX0 104 "java/lang/IllegalArgumentException") (by decide +kernel)) (C0.1.2.2.2.2 (.initialized "java/lang/IllegalArgumentException") (by decide +kernel)) (fun w hw => C0.1.2.2.2.2 w (List.mem_cons_of_mem _ (List.mem_append_right _ (hw)))) (by decide +kernel) (by decide +kernel) hl.1 dX0_checkHandle_10 dX0_checkHandle_13 dX0_checkHandle_14 dX0_checkHandle_16 dX0_checkHandle_19 (Nat.le_of_ble_eq_true rfl) (Nat.le_of_ble_eq_true rfl) (Nat.le_of_ble_eq_true rfl) (Nat.le_of_ble_eq_true rfl) (Nat.le_of_ble_eq_true rfl) (Nat.le_of_ble_eq_true rfl)
  · skip
    obtain ⟨j, hj, rfl⟩ := nI_of c1
    refine lv_iload_n C0.1.1 C0.1.2.1 dX0_checkHandle_4 rfl (lv_at hl 0 rfl) ?_
    refine lv_bipush (v := nI 48) C0.1.1 C0.1.2.1 dX0_checkHandle_5 (by decide) ?_
    refine lv_icmp_lt (tgt := 20) C0.1.1 C0.1.2.1 dX0_checkHandle_7 (by decide) (fun c2 => ?_) (fun c2 => ?_)
    · rw [nI_ltI (by omega) (by omega)] at c2
      exact vx_ret (gs_retv r C0 hz (⟨rfl, j, c2, rfl⟩) (Nat.le_of_ble_eq_true rfl) (Nat.le_of_ble_eq_true rfl) dX0_checkHandle_20)
    · rw [nI_ltI (by omega) (by omega)] at c2
      exact gs_throw (cls := "java/lang/IllegalArgumentException") (text := "handle is not 0 to 47") C0 hst hz hxz (⟨rfl, fun ⟨h, h1, h2⟩ => by rw [nI_eq hj (by omega)] at h2; omega⟩) (Or.inl rfl) (by decide) (C0.1.2.2.2.2 (.classLink RX0 104 "java/lang/IllegalArgumentException") (by decide +kernel)) (C0.1.2.2.2.2 (.initialized "java/lang/IllegalArgumentException") (by decide +kernel)) (fun w hw => C0.1.2.2.2.2 w (List.mem_cons_of_mem _ (List.mem_append_right _ (hw)))) (by decide +kernel) (by decide +kernel) hl.1 dX0_checkHandle_10 dX0_checkHandle_13 dX0_checkHandle_14 dX0_checkHandle_16 dX0_checkHandle_19 (Nat.le_of_ble_eq_true rfl) (Nat.le_of_ble_eq_true rfl) (Nat.le_of_ble_eq_true rfl) (Nat.le_of_ble_eq_true rfl) (Nat.le_of_ble_eq_true rfl) (Nat.le_of_ble_eq_true rfl)
set_option maxHeartbeats 4000000 in
set_option maxRecDepth 100000 in
/-- checkInUse -/
theorem k_checkInUse (l : Launch) (hst : l.stackTraces = false) (G : gs_G) (q : Nat → Nat) (r : xr) (S : hs_S) (hS : rx S r) (hI : hs_I S) (x : Int32) : gx_v l yX0_checkInUse wsX0_checkInUse (gm_rm 7 2 12) G (xw G q) r [.ref (q 0), .int x] (fun u => u = r ∧ ∃ h, h < 48 ∧ x = nI h ∧ hs_u S h ≠ 0) (fun E => E = xIA ∧ ¬ ∃ h, h < 48 ∧ x = nI h ∧ hs_u S h ≠ 0) 2 12 := by
  refine gx_v.of (cc := cX0_checkInUse) (nL := 2) (ret := none) (by decide +kernel) rfl (Nat.le_of_ble_eq_true rfl) ?_
  intro p e s m args below meth c ls C0 hz hxz hl
  have hin : ∀ w ∈ wsX00, w ∈ wsX0_checkInUse := by decide +kernel
  have l_bg : Cond.fieldLink RX0 13 "HandleHeap" "begin" "[I" ∈ wsX0_checkInUse := by decide +kernel
  have hl : lv_has ls 2 [(0, .ref (q 0)), (1, .int x)] := hl
  refine lv_iload_n C0.1.1 C0.1.2.1 dX0_checkInUse_0 rfl (lv_at hl 1 rfl) ?_
  refine gx_callSv (w := xw G q) (wr := []) C0.1 (k_checkHandle l hst G q r x) (va_cwS 1 C0.1.2.2.2.2 gX0_checkInUse_X0_checkHandle rfl rfl rfl (by decide +kernel) ⟨Nat.le_of_ble_eq_true rfl, Nat.le_of_ble_eq_true rfl⟩) (gs_nil hz) hxz rfl hl.1 rfl (Nat.le_of_ble_eq_true rfl) dX0_checkInUse_1 ⟨Nat.le_of_ble_eq_true rfl, Nat.le_of_ble_eq_true rfl⟩ (fun E ce q9 H locs hE hz hce hcv hcl => gs_pass C0 (⟨hE.1, fun ⟨h, h1, h2, _⟩ => hE.2 ⟨h, h1, h2⟩⟩) (gs_unnil hz) hce hcv hcl (Nat.le_of_ble_eq_true rfl) (Nat.le_of_ble_eq_true rfl)) (fun u9 H locs hp9 hz => ?_)
  replace hz := gs_unnil hz
  rw [hp9.1] at hz
  obtain ⟨-, h, hh, rfl⟩ := hp9
  refine lv_aload_n C0.1.1 C0.1.2.1 dX0_checkInUse_4 rfl (lv_at hl 0 rfl) ?_
  refine xg_bg C0 hin hz l_bg dX0_checkInUse_5 ?_
  refine lv_iload_n C0.1.1 C0.1.2.1 dX0_checkInUse_8 rfl (lv_at hl 1 rfl) ?_
  refine xl_bg C0 hz h (by omega) rfl dX0_checkInUse_9 ?_
  refine gs_eq (y := xb (hs_u S h) (hs_b S h)) (hS.1 h hh) ?_
  refine lv_iconst (v := (-1)) C0.1.1 C0.1.2.1 dX0_checkInUse_10 (by decide) ?_
  refine lv_icmp_ne (tgt := 24) C0.1.1 C0.1.2.1 dX0_checkInUse_11 (by decide) (fun c1 => ?_) (fun c1 => ?_)
  · skip
    rw [xb_m1 (hI.b2 hh) (hI.u2 hh)] at c1
    exact vx_ret (gs_retv r C0 hz (⟨rfl, h, hh, rfl, c1⟩) (Nat.le_of_ble_eq_true rfl) (Nat.le_of_ble_eq_true rfl) dX0_checkInUse_24)
  · skip
    rw [xb_m1 (hI.b2 hh) (hI.u2 hh)] at c1
    exact gs_throw (cls := "java/lang/IllegalArgumentException") (text := "the handle is unused") C0 hst hz hxz (⟨rfl, fun ⟨g, h1, h2, h3⟩ => by rw [nI_eq (by omega) (by omega)] at h2; subst h2; exact h3 c1⟩) (Or.inl rfl) (by decide) (C0.1.2.2.2.2 (.classLink RX0 104 "java/lang/IllegalArgumentException") (by decide +kernel)) (C0.1.2.2.2.2 (.initialized "java/lang/IllegalArgumentException") (by decide +kernel)) (fun w hw => C0.1.2.2.2.2 w (List.mem_cons_of_mem _ (List.mem_append_right _ (hw)))) (by decide +kernel) (by decide +kernel) hl.1 dX0_checkInUse_14 dX0_checkInUse_17 dX0_checkInUse_18 dX0_checkInUse_20 dX0_checkInUse_23 (Nat.le_of_ble_eq_true rfl) (Nat.le_of_ble_eq_true rfl) (Nat.le_of_ble_eq_true rfl) (Nat.le_of_ble_eq_true rfl) (Nat.le_of_ble_eq_true rfl) (Nat.le_of_ble_eq_true rfl)
set_option maxHeartbeats 4000000 in
set_option maxRecDepth 100000 in
/-- checkHasBlock -/
theorem k_checkHasBlock (l : Launch) (hst : l.stackTraces = false) (G : gs_G) (q : Nat → Nat) (r : xr) (S : hs_S) (hS : rx S r) (hI : hs_I S) (x : Int32) : gx_v l yX0_checkHasBlock wsX0_checkHasBlock (gm_rm 8 3 18) G (xw G q) r [.ref (q 0), .int x] (fun u => u = r ∧ ∃ h, h < 48 ∧ x = nI h ∧ hs_u S h = 2) (fun E => (E = xIA ∧ ¬ ∃ h, h < 48 ∧ x = nI h ∧ hs_u S h ≠ 0) ∨ (E = xIS ∧ ∃ h, h < 48 ∧ x = nI h ∧ hs_u S h = 1)) 3 18 := by
  refine gx_v.of (cc := cX0_checkHasBlock) (nL := 2) (ret := none) (by decide +kernel) rfl (Nat.le_of_ble_eq_true rfl) ?_
  intro p e s m args below meth c ls C0 hz hxz hl
  have hin : ∀ w ∈ wsX00, w ∈ wsX0_checkHasBlock := by decide +kernel
  have l_bg : Cond.fieldLink RX0 13 "HandleHeap" "begin" "[I" ∈ wsX0_checkHasBlock := by decide +kernel
  have hl : lv_has ls 2 [(0, .ref (q 0)), (1, .int x)] := hl
  refine lv_aload_n C0.1.1 C0.1.2.1 dX0_checkHasBlock_0 rfl (lv_at hl 0 rfl) ?_
  refine lv_iload_n C0.1.1 C0.1.2.1 dX0_checkHasBlock_1 rfl (lv_at hl 1 rfl) ?_
  refine gx_callVv (w := xw G q) (wr := []) C0.1 (k_checkInUse l hst G q r S hS hI x) (cwV 1 C0.1.2.2.2.2 gX0_checkHasBlock_X0_checkInUse rfl rfl rfl (by decide +kernel) ⟨Nat.le_of_ble_eq_true rfl, Nat.le_of_ble_eq_true rfl⟩) (ci := 0) rfl rfl rfl (gs_nil hz) hxz rfl hl.1 rfl (Nat.le_of_ble_eq_true rfl) dX0_checkHasBlock_2 ⟨Nat.le_of_ble_eq_true rfl, Nat.le_of_ble_eq_true rfl⟩ (fun E ce q9 H locs hE hz hce hcv hcl => gs_pass C0 (Or.inl hE) (gs_unnil hz) hce hcv hcl (Nat.le_of_ble_eq_true rfl) (Nat.le_of_ble_eq_true rfl)) (fun u9 H locs hp9 hz => ?_)
  replace hz := gs_unnil hz
  rw [hp9.1] at hz
  obtain ⟨-, h, hh, rfl, hu⟩ := hp9
  have hu2 := hI.u2 hh
  refine lv_aload_n C0.1.1 C0.1.2.1 dX0_checkHasBlock_5 rfl (lv_at hl 0 rfl) ?_
  refine xg_bg C0 hin hz l_bg dX0_checkHasBlock_6 ?_
  refine lv_iload_n C0.1.1 C0.1.2.1 dX0_checkHasBlock_9 rfl (lv_at hl 1 rfl) ?_
  refine xl_bg C0 hz h (by omega) rfl dX0_checkHasBlock_10 ?_
  refine gs_eq (y := xb (hs_u S h) (hs_b S h)) (hS.1 h hh) ?_
  refine lv_bipush (v := (-2)) C0.1.1 C0.1.2.1 dX0_checkHasBlock_11 (by decide) ?_
  refine lv_icmp_ne (tgt := 26) C0.1.1 C0.1.2.1 dX0_checkHasBlock_13 (by decide) (fun c1 => ?_) (fun c1 => ?_)
  · skip
    rw [xb_m2 (hI.b2 hh) (hI.u2 hh)] at c1
    exact vx_ret (gs_retv r C0 hz (⟨rfl, h, hh, rfl, by omega⟩) (Nat.le_of_ble_eq_true rfl) (Nat.le_of_ble_eq_true rfl) dX0_checkHasBlock_26)
  · skip
    rw [xb_m2 (hI.b2 hh) (hI.u2 hh)] at c1
    exact gs_throw (cls := "java/lang/IllegalStateException") (text := "the handle is empty") C0 hst hz hxz (Or.inr ⟨rfl, h, hh, rfl, c1⟩) (Or.inr (Or.inl rfl)) (by decide) (C0.1.2.2.2.2 (.classLink RX0 88 "java/lang/IllegalStateException") (by decide +kernel)) (C0.1.2.2.2.2 (.initialized "java/lang/IllegalStateException") (by decide +kernel)) (fun w hw => C0.1.2.2.2.2 w (List.mem_cons_of_mem _ (List.mem_append_left _ (List.mem_append_right _ (hw))))) (by decide +kernel) (by decide +kernel) hl.1 dX0_checkHasBlock_16 dX0_checkHasBlock_19 dX0_checkHasBlock_20 dX0_checkHasBlock_22 dX0_checkHasBlock_25 (Nat.le_of_ble_eq_true rfl) (Nat.le_of_ble_eq_true rfl) (Nat.le_of_ble_eq_true rfl) (Nat.le_of_ble_eq_true rfl) (Nat.le_of_ble_eq_true rfl) (Nat.le_of_ble_eq_true rfl)
set_option maxHeartbeats 4000000 in
set_option maxRecDepth 100000 in
/-- checkBlockLength -/
theorem k_checkBlockLength (l : Launch) (hst : l.stackTraces = false) (G : gs_G) (q : Nat → Nat) (r : xr) (x : Int32) : gx_v l yX0_checkBlockLength wsX0_checkBlockLength (gm_rm 6 1 6) G (xw G q) r [.int x] (fun u => u = r ∧ ∃ n, 1 ≤ n ∧ n ≤ 1024 ∧ x = nI n) (fun E => E = xIA ∧ ¬ ∃ n, 1 ≤ n ∧ n ≤ 1024 ∧ x = nI n) 1 6 := by
  refine gx_v.of (cc := cX0_checkBlockLength) (nL := 1) (ret := none) (by decide +kernel) rfl (Nat.le_of_ble_eq_true rfl) ?_
  intro p e s m args below meth c ls C0 hz hxz hl
  have hl : lv_has ls 1 [(0, .int x)] := hl
  refine lv_iload_n C0.1.1 C0.1.2.1 dX0_checkBlockLength_0 rfl (lv_at hl 0 rfl) ?_
  refine lv_iconst (v := nI 1) C0.1.1 C0.1.2.1 dX0_checkBlockLength_1 (by decide) ?_
  refine lv_icmp_lt (tgt := 12) C0.1.1 C0.1.2.1 dX0_checkBlockLength_2 (by decide) (fun c1 => ?_) (fun c1 => ?_)
  · skip
    exact gs_throw (cls := "java/lang/IllegalArgumentException") (text := "n is not 1 to 1024") C0 hst hz hxz (⟨rfl, fun ⟨h, h1, h2, h3⟩ => by rw [h3, nI_ltI (by omega) (by omega)] at c1; omega⟩) (Or.inl rfl) (by decide) (C0.1.2.2.2.2 (.classLink RX0 104 "java/lang/IllegalArgumentException") (by decide +kernel)) (C0.1.2.2.2.2 (.initialized "java/lang/IllegalArgumentException") (by decide +kernel)) (fun w hw => C0.1.2.2.2.2 w (List.mem_cons_of_mem _ (List.mem_append_right _ (hw)))) (by decide +kernel) (by decide +kernel) hl.1 dX0_checkBlockLength_12 dX0_checkBlockLength_15 dX0_checkBlockLength_16 dX0_checkBlockLength_18 dX0_checkBlockLength_21 (Nat.le_of_ble_eq_true rfl) (Nat.le_of_ble_eq_true rfl) (Nat.le_of_ble_eq_true rfl) (Nat.le_of_ble_eq_true rfl) (Nat.le_of_ble_eq_true rfl) (Nat.le_of_ble_eq_true rfl)
  · skip
    obtain ⟨j, hj, rfl⟩ := nI_of (x := x) (fun z => c1 (Int32.lt_trans z (by decide)))
    rw [nI_ltI (by omega) (by omega)] at c1
    refine lv_iload_n C0.1.1 C0.1.2.1 dX0_checkBlockLength_5 rfl (lv_at hl 0 rfl) ?_
    refine lv_sipush (v := nI 1024) C0.1.1 C0.1.2.1 dX0_checkBlockLength_6 (by decide) ?_
    refine lv_icmp_le (tgt := 22) C0.1.1 C0.1.2.1 dX0_checkBlockLength_9 (by decide) (fun c2 => ?_) (fun c2 => ?_)
    · rw [nI_leI (by omega) (by omega)] at c2
      exact vx_ret (gs_retv r C0 hz (⟨rfl, j, by omega, c2, rfl⟩) (Nat.le_of_ble_eq_true rfl) (Nat.le_of_ble_eq_true rfl) dX0_checkBlockLength_22)
    · rw [nI_leI (by omega) (by omega)] at c2
      exact gs_throw (cls := "java/lang/IllegalArgumentException") (text := "n is not 1 to 1024") C0 hst hz hxz (⟨rfl, fun ⟨h, h1, h2, h3⟩ => by rw [nI_eq hj (by omega)] at h3; omega⟩) (Or.inl rfl) (by decide) (C0.1.2.2.2.2 (.classLink RX0 104 "java/lang/IllegalArgumentException") (by decide +kernel)) (C0.1.2.2.2.2 (.initialized "java/lang/IllegalArgumentException") (by decide +kernel)) (fun w hw => C0.1.2.2.2.2 w (List.mem_cons_of_mem _ (List.mem_append_right _ (hw)))) (by decide +kernel) (by decide +kernel) hl.1 dX0_checkBlockLength_12 dX0_checkBlockLength_15 dX0_checkBlockLength_16 dX0_checkBlockLength_18 dX0_checkBlockLength_21 (Nat.le_of_ble_eq_true rfl) (Nat.le_of_ble_eq_true rfl) (Nat.le_of_ble_eq_true rfl) (Nat.le_of_ble_eq_true rfl) (Nat.le_of_ble_eq_true rfl) (Nat.le_of_ble_eq_true rfl)
set_option maxHeartbeats 4000000 in
set_option maxRecDepth 100000 in
/-- checkByte -/
theorem k_checkByte (l : Launch) (hst : l.stackTraces = false) (G : gs_G) (q : Nat → Nat) (r : xr) (x : Int32) (n : Nat) (hn : n ≤ 1024) : gx_v l yX0_checkByte wsX0_checkByte (gm_rm 6 1 6) G (xw G q) r [.int x, .int (nI n)] (fun u => u = r ∧ ∃ i, i < n ∧ x = nI i) (fun E => E = xIO ∧ ¬ ∃ i, i < n ∧ x = nI i) 1 6 := by
  refine gx_v.of (cc := cX0_checkByte) (nL := 2) (ret := none) (by decide +kernel) rfl (Nat.le_of_ble_eq_true rfl) ?_
  intro p e s m args below meth c ls C0 hz hxz hl
  have hl : lv_has ls 2 [(0, .int x), (1, .int (nI n))] := hl
  refine lv_iload_n C0.1.1 C0.1.2.1 dX0_checkByte_0 rfl (lv_at hl 0 rfl) ?_
  refine lv_if_lt (tgt := 9) C0.1.1 C0.1.2.1 dX0_checkByte_1 (by decide) (fun c1 => ?_) (fun c1 => ?_)
  · skip
    exact gs_throw (cls := "java/lang/IndexOutOfBoundsException") (text := "there is no such byte") C0 hst hz hxz (⟨rfl, fun ⟨h, h1, h2⟩ => by rw [h2] at c1; exact nI_pos (by omega) c1⟩) (Or.inr (Or.inr rfl)) (by decide) (C0.1.2.2.2.2 (.classLink RX0 142 "java/lang/IndexOutOfBoundsException") (by decide +kernel)) (C0.1.2.2.2.2 (.initialized "java/lang/IndexOutOfBoundsException") (by decide +kernel)) (fun w hw => C0.1.2.2.2.2 w (List.mem_cons_of_mem _ (List.mem_append_right _ (hw)))) (by decide +kernel) (by decide +kernel) hl.1 dX0_checkByte_9 dX0_checkByte_12 dX0_checkByte_13 dX0_checkByte_15 dX0_checkByte_18 (Nat.le_of_ble_eq_true rfl) (Nat.le_of_ble_eq_true rfl) (Nat.le_of_ble_eq_true rfl) (Nat.le_of_ble_eq_true rfl) (Nat.le_of_ble_eq_true rfl) (Nat.le_of_ble_eq_true rfl)
  · skip
    obtain ⟨j, hj, rfl⟩ := nI_of c1
    refine lv_iload_n C0.1.1 C0.1.2.1 dX0_checkByte_4 rfl (lv_at hl 0 rfl) ?_
    refine lv_iload_n C0.1.1 C0.1.2.1 dX0_checkByte_5 rfl (lv_at hl 1 rfl) ?_
    refine lv_icmp_lt (tgt := 19) C0.1.1 C0.1.2.1 dX0_checkByte_6 (by decide) (fun c2 => ?_) (fun c2 => ?_)
    · rw [nI_ltI (by omega) (by omega)] at c2
      exact vx_ret (gs_retv r C0 hz (⟨rfl, j, c2, rfl⟩) (Nat.le_of_ble_eq_true rfl) (Nat.le_of_ble_eq_true rfl) dX0_checkByte_19)
    · rw [nI_ltI (by omega) (by omega)] at c2
      exact gs_throw (cls := "java/lang/IndexOutOfBoundsException") (text := "there is no such byte") C0 hst hz hxz (⟨rfl, fun ⟨h, h1, h2⟩ => by rw [nI_eq hj (by omega)] at h2; omega⟩) (Or.inr (Or.inr rfl)) (by decide) (C0.1.2.2.2.2 (.classLink RX0 142 "java/lang/IndexOutOfBoundsException") (by decide +kernel)) (C0.1.2.2.2.2 (.initialized "java/lang/IndexOutOfBoundsException") (by decide +kernel)) (fun w hw => C0.1.2.2.2.2 w (List.mem_cons_of_mem _ (List.mem_append_right _ (hw)))) (by decide +kernel) (by decide +kernel) hl.1 dX0_checkByte_9 dX0_checkByte_12 dX0_checkByte_13 dX0_checkByte_15 dX0_checkByte_18 (Nat.le_of_ble_eq_true rfl) (Nat.le_of_ble_eq_true rfl) (Nat.le_of_ble_eq_true rfl) (Nat.le_of_ble_eq_true rfl) (Nat.le_of_ble_eq_true rfl) (Nat.le_of_ble_eq_true rfl)
