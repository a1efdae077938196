/-! THE REFERENCE: notThere, lock, losable, lose, lift, slide, clear, where, size, put, get, owner, told, thrown -/
set_option maxHeartbeats 4000000 in
set_option maxRecDepth 100000 in
/-- notThere -/
theorem m_notThere (l : Launch) (G : gs_G) (q : Nat → Nat) (r : yr) (S : hs_S) (hS : ry S r) (hI : hs_I S) (x : Int32) : gm_i l yX1_notThere wsX1_notThere (gm_rm 2 0 0) G (yw G q) r [.ref (q 0), .int x] (fun res u => ry S u ∧ ((res = nI 0 ∧ y_th u = nI 0 ∧ ∃ h, h < 48 ∧ x = nI h ∧ hs_u S h = 2) ∨ (res = nI 1 ∧ y_th u = nI 1 ∧ ¬ ∃ h, h < 48 ∧ x = nI h ∧ hs_u S h ≠ 0) ∨ (res = nI 1 ∧ y_th u = nI 2 ∧ ∃ h, h < 48 ∧ x = nI h ∧ hs_u S h = 1))) 0 0 := by
  refine gm_i.of (cc := cX1_notThere) (nL := 2) (ret := (some .boolean)) (by decide +kernel) rfl (Nat.le_of_ble_eq_true rfl) ?_
  intro p e s m args below meth c ls C0 hz hl
  have hin : ∀ w ∈ wsX10, w ∈ wsX1_notThere := by decide +kernel
  have l_sz : Cond.fieldLink RX1 17 "HandleHeapModel" "size" "[I" ∈ wsX1_notThere := by decide +kernel
  have l_th : Cond.fieldLink RX1 33 "HandleHeapModel" "thrown" "I" ∈ wsX1_notThere := by decide +kernel
  have hl : lv_has ls 2 [(0, .ref (q 0)), (1, .int x)] := hl
  refine lv_aload_n C0.1.1 C0.1.2.1 dX1_notThere_0 rfl (lv_at hl 0 rfl) ?_
  refine lv_aload_n C0.1.1 C0.1.2.1 dX1_notThere_1 rfl (lv_at hl 0 rfl) ?_
  refine lv_iload_n C0.1.1 C0.1.2.1 dX1_notThere_2 rfl (lv_at hl 1 rfl) ?_
  refine gs_callVi (w := yw G q) (wr := []) C0.1 (m_notUsed l G q r S hS x) (cwV 1 C0.1.2.2.2.2 gX1_notThere_X1_notUsed rfl rfl rfl (by decide +kernel) ⟨Nat.le_of_ble_eq_true rfl, Nat.le_of_ble_eq_true rfl⟩) (ci := 1) rfl rfl rfl (gs_nil hz) rfl hl.1 rfl (Nat.le_of_ble_eq_true rfl) dX1_notThere_3 ⟨Nat.le_of_ble_eq_true rfl, Nat.le_of_ble_eq_true rfl⟩ (fun res u9 H locs hp9 hz => ?_)
  replace hz := gs_unnil hz
  obtain ⟨hpe, hp9⟩ := hp9
  rw [hpe] at hz
  rcases hp9 with ⟨hp9, h, hh, rfl, hu⟩ | ⟨hp9, hno⟩
  · skip
    refine gs_eq (y := nI 0) (hp9) ?_
    refine lv_if_eq (tgt := 13) C0.1.1 C0.1.2.1 dX1_notThere_6 (by decide) (fun _ => ?_) (fun c9 => absurd (by decide) c9)
    have hn1 := hI.n1024 hh
    have hn0 := hI.n0 hh
    have hu2 := hI.u2 hh
    refine lv_aload_n C0.1.1 C0.1.2.1 dX1_notThere_13 rfl (lv_at hl 0 rfl) ?_
    refine yg_sz C0 hin hz l_sz dX1_notThere_14 ?_
    refine lv_iload_n C0.1.1 C0.1.2.1 dX1_notThere_17 rfl (lv_at hl 1 rfl) ?_
    refine yl_sz C0 hz h (by omega) rfl dX1_notThere_18 ?_
    refine gs_eq (y := nI (hs_n S h)) (hS.2.1 h hh) ?_
    refine lv_if_ne (tgt := 26) C0.1.1 C0.1.2.1 dX1_notThere_19 (by decide) (fun c1 => ?_) (fun c1 => ?_)
    · rw [n0_eq (by omega)] at c1
      refine lv_iconst (v := nI 0) C0.1.1 C0.1.2.1 dX1_notThere_26 (by decide) ?_
      refine yp_th C0 hin hz l_th dX1_notThere_27 (fun H locs hz => ?_)
      obtain ⟨r1, er1⟩ : ∃ z, z = ys_th r (nI 0) := ⟨_, rfl⟩
      rw [← er1] at hz
      refine lv_aload_n C0.1.1 C0.1.2.1 dX1_notThere_30 rfl (lv_at hl 0 rfl) ?_
      refine yg_th C0 hin hz l_th dX1_notThere_31 ?_
      refine gs_eq (y := nI 0) (by rw [er1]; rfl) ?_
      refine lv_if_le (tgt := 41) C0.1.1 C0.1.2.1 dX1_notThere_34 (by decide) (fun _ => ?_) (fun c9 => absurd (by decide) c9)
      refine lv_iconst (v := nI 0) C0.1.1 C0.1.2.1 dX1_notThere_41 (by decide) ?_
      exact gs_retz r1 C0 hz (by decide) (⟨by rw [er1]; exact hS, Or.inl ⟨rfl, by rw [er1]; rfl, h, hh, rfl, hn0.mp (by omega)⟩⟩) (Nat.le_of_ble_eq_true rfl) (Nat.le_of_ble_eq_true rfl) dX1_notThere_42
    · rw [n0_eq (by omega)] at c1
      refine lv_iconst (v := nI 2) C0.1.1 C0.1.2.1 dX1_notThere_22 (by decide) ?_
      refine lv_goto (tgt := 27) C0.1.1 C0.1.2.1 dX1_notThere_23 (by decide) ?_
      refine yp_th C0 hin hz l_th dX1_notThere_27 (fun H locs hz => ?_)
      obtain ⟨r1, er1⟩ : ∃ z, z = ys_th r (nI 2) := ⟨_, rfl⟩
      rw [← er1] at hz
      refine lv_aload_n C0.1.1 C0.1.2.1 dX1_notThere_30 rfl (lv_at hl 0 rfl) ?_
      refine yg_th C0 hin hz l_th dX1_notThere_31 ?_
      refine gs_eq (y := nI 2) (by rw [er1]; rfl) ?_
      refine lv_if_le (tgt := 41) C0.1.1 C0.1.2.1 dX1_notThere_34 (by decide) (fun c9 => absurd c9 (by decide)) (fun _ => ?_)
      refine lv_iconst (v := nI 1) C0.1.1 C0.1.2.1 dX1_notThere_37 (by decide) ?_
      refine lv_goto (tgt := 42) C0.1.1 C0.1.2.1 dX1_notThere_38 (by decide) ?_
      exact gs_retz r1 C0 hz (by decide) (⟨by rw [er1]; exact hS, Or.inr (Or.inr ⟨rfl, by rw [er1]; rfl, h, hh, rfl, by omega⟩)⟩) (Nat.le_of_ble_eq_true rfl) (Nat.le_of_ble_eq_true rfl) dX1_notThere_42
  · skip
    refine gs_eq (y := nI 1) (hp9) ?_
    refine lv_if_eq (tgt := 13) C0.1.1 C0.1.2.1 dX1_notThere_6 (by decide) (fun c9 => absurd c9 (by decide)) (fun _ => ?_)
    refine lv_iconst (v := nI 1) C0.1.1 C0.1.2.1 dX1_notThere_9 (by decide) ?_
    refine lv_goto (tgt := 27) C0.1.1 C0.1.2.1 dX1_notThere_10 (by decide) ?_
    refine yp_th C0 hin hz l_th dX1_notThere_27 (fun H locs hz => ?_)
    obtain ⟨r1, er1⟩ : ∃ z, z = ys_th r (nI 1) := ⟨_, rfl⟩
    rw [← er1] at hz
    refine lv_aload_n C0.1.1 C0.1.2.1 dX1_notThere_30 rfl (lv_at hl 0 rfl) ?_
    refine yg_th C0 hin hz l_th dX1_notThere_31 ?_
    refine gs_eq (y := nI 1) (by rw [er1]; rfl) ?_
    refine lv_if_le (tgt := 41) C0.1.1 C0.1.2.1 dX1_notThere_34 (by decide) (fun c9 => absurd c9 (by decide)) (fun _ => ?_)
    refine lv_iconst (v := nI 1) C0.1.1 C0.1.2.1 dX1_notThere_37 (by decide) ?_
    refine lv_goto (tgt := 42) C0.1.1 C0.1.2.1 dX1_notThere_38 (by decide) ?_
    exact gs_retz r1 C0 hz (by decide) (⟨by rw [er1]; exact hS, Or.inr (Or.inl ⟨rfl, by rw [er1]; rfl, hno⟩)⟩) (Nat.le_of_ble_eq_true rfl) (Nat.le_of_ble_eq_true rfl) dX1_notThere_42
set_option maxHeartbeats 4000000 in
set_option maxRecDepth 100000 in
/-- lock -/
theorem m_lock (l : Launch) (G : gs_G) (q : Nat → Nat) (r : yr) (S : hs_S) (hS : ry S r) (hI : hs_I S) (x : Int32) (v : Bool) : gm_i l yX1_lock wsX1_lock (gm_rm 8 0 0) G (yw G q) r [.ref (q 0), .int x, .int (bI v)] (fun res u => py (sp_lock S x v) res u) 0 0 := by
  refine gm_i.of (cc := cX1_lock) (nL := 4) (ret := (some .boolean)) (by decide +kernel) rfl (Nat.le_of_ble_eq_true rfl) ?_
  intro p e s m args below meth c ls C0 hz hl
  have hin : ∀ w ∈ wsX10, w ∈ wsX1_lock := by decide +kernel
  have l_lk : Cond.fieldLink RX1 23 "HandleHeapModel" "locked" "[Z" ∈ wsX1_lock := by decide +kernel
  have hl : lv_has ls 4 [(0, .ref (q 0)), (1, .int x), (2, .int (bI v))] := hl
  refine lv_aload_n C0.1.1 C0.1.2.1 dX1_lock_0 rfl (lv_at hl 0 rfl) ?_
  refine lv_iload_n C0.1.1 C0.1.2.1 dX1_lock_1 rfl (lv_at hl 1 rfl) ?_
  refine gs_callVi (w := yw G q) (wr := []) C0.1 (m_notThere l G q r S hS hI x) (cwV 1 C0.1.2.2.2.2 gX1_lock_X1_notThere rfl rfl rfl (by decide +kernel) ⟨Nat.le_of_ble_eq_true rfl, Nat.le_of_ble_eq_true rfl⟩) (ci := 1) rfl rfl rfl (gs_nil hz) rfl hl.1 rfl (Nat.le_of_ble_eq_true rfl) dX1_lock_2 ⟨Nat.le_of_ble_eq_true rfl, Nat.le_of_ble_eq_true rfl⟩ (fun res u H locs hp hz => ?_)
  replace hz := gs_unnil hz
  obtain ⟨hS1, ⟨hp, th1, h, hh, rfl, hu⟩ | ⟨hp, th1, hno⟩ | ⟨hp, th1, h, hh, rfl, hu⟩⟩ := hp
  · skip
    refine gs_eq (y := nI 0) (hp) ?_
    refine lv_if_eq (tgt := 10) C0.1.1 C0.1.2.1 dX1_lock_5 (by decide) (fun _ => ?_) (fun c9 => absurd (by decide) c9)
    refine lv_aload_n C0.1.1 C0.1.2.1 dX1_lock_10 rfl (lv_at hl 0 rfl) ?_
    refine yg_lk C0 hin hz l_lk dX1_lock_11 ?_
    refine lv_iload_n C0.1.1 C0.1.2.1 dX1_lock_14 rfl (lv_at hl 1 rfl) ?_
    refine yl_lk C0 hz h (by omega) rfl dX1_lock_15 ?_
    refine gs_eq (y := bI (hs_l S h)) ((hS1.2.2.1 h hh hu).2.2.1) ?_
    refine lv_istore_n (lv' := [(3, .int (bI (hs_l S h))), (0, .ref (q 0)), (1, .int (nI h)), (2, .int (bI v))]) C0.1.1 C0.1.2.1 dX1_lock_16 rfl hl (by decide) rfl (fun ls hl => ?_)
    refine lv_aload_n C0.1.1 C0.1.2.1 dX1_lock_17 rfl (lv_at hl 1 rfl) ?_
    refine yg_lk C0 hin hz l_lk dX1_lock_18 ?_
    refine lv_iload_n C0.1.1 C0.1.2.1 dX1_lock_21 rfl (lv_at hl 2 rfl) ?_
    refine lv_iload_n C0.1.1 C0.1.2.1 dX1_lock_22 rfl (lv_at hl 3 rfl) ?_
    refine yt_lk C0 hz h (by omega) rfl (bI_nar _) dX1_lock_23 (fun H locs hz => ?_)
    refine lv_iload_n C0.1.1 C0.1.2.1 dX1_lock_24 rfl (lv_at hl 0 rfl) ?_
    exact gs_retz (ys_lk u (upd (y_lk u) h (bI v))) C0 hz (bI_nar _) (py_of (sp_has_h hh hu) th1 rfl (ry_lk hS1)) (Nat.le_of_ble_eq_true rfl) (Nat.le_of_ble_eq_true rfl) dX1_lock_25
  · skip
    refine gs_eq (y := nI 1) (hp) ?_
    refine lv_if_eq (tgt := 10) C0.1.1 C0.1.2.1 dX1_lock_5 (by decide) (fun c9 => absurd c9 (by decide)) (fun _ => ?_)
    refine lv_iconst (v := nI 0) C0.1.1 C0.1.2.1 dX1_lock_8 (by decide) ?_
    exact gs_retz u C0 hz (by decide) (py_x (sp_has_no hno) (by decide) th1 hS1) (Nat.le_of_ble_eq_true rfl) (Nat.le_of_ble_eq_true rfl) dX1_lock_9
  · skip
    refine gs_eq (y := nI 1) (hp) ?_
    refine lv_if_eq (tgt := 10) C0.1.1 C0.1.2.1 dX1_lock_5 (by decide) (fun c9 => absurd c9 (by decide)) (fun _ => ?_)
    refine lv_iconst (v := nI 0) C0.1.1 C0.1.2.1 dX1_lock_8 (by decide) ?_
    exact gs_retz u C0 hz (by decide) (py_x (sp_has_e hh hu) (by decide) th1 hS1) (Nat.le_of_ble_eq_true rfl) (Nat.le_of_ble_eq_true rfl) dX1_lock_9
set_option maxHeartbeats 4000000 in
set_option maxRecDepth 100000 in
/-- losable -/
theorem m_losable (l : Launch) (G : gs_G) (q : Nat → Nat) (r : yr) (S : hs_S) (hS : ry S r) (hI : hs_I S) (x : Int32) (v : Bool) : gm_i l yX1_losable wsX1_losable (gm_rm 8 0 0) G (yw G q) r [.ref (q 0), .int x, .int (bI v)] (fun res u => py (sp_losable S x v) res u) 0 0 := by
  refine gm_i.of (cc := cX1_losable) (nL := 4) (ret := (some .boolean)) (by decide +kernel) rfl (Nat.le_of_ble_eq_true rfl) ?_
  intro p e s m args below meth c ls C0 hz hl
  have hin : ∀ w ∈ wsX10, w ∈ wsX1_losable := by decide +kernel
  have l_ls : Cond.fieldLink RX1 26 "HandleHeapModel" "losable" "[Z" ∈ wsX1_losable := by decide +kernel
  have hl : lv_has ls 4 [(0, .ref (q 0)), (1, .int x), (2, .int (bI v))] := hl
  refine lv_aload_n C0.1.1 C0.1.2.1 dX1_losable_0 rfl (lv_at hl 0 rfl) ?_
  refine lv_iload_n C0.1.1 C0.1.2.1 dX1_losable_1 rfl (lv_at hl 1 rfl) ?_
  refine gs_callVi (w := yw G q) (wr := []) C0.1 (m_notThere l G q r S hS hI x) (cwV 1 C0.1.2.2.2.2 gX1_losable_X1_notThere rfl rfl rfl (by decide +kernel) ⟨Nat.le_of_ble_eq_true rfl, Nat.le_of_ble_eq_true rfl⟩) (ci := 1) rfl rfl rfl (gs_nil hz) rfl hl.1 rfl (Nat.le_of_ble_eq_true rfl) dX1_losable_2 ⟨Nat.le_of_ble_eq_true rfl, Nat.le_of_ble_eq_true rfl⟩ (fun res u H locs hp hz => ?_)
  replace hz := gs_unnil hz
  obtain ⟨hS1, ⟨hp, th1, h, hh, rfl, hu⟩ | ⟨hp, th1, hno⟩ | ⟨hp, th1, h, hh, rfl, hu⟩⟩ := hp
  · skip
    refine gs_eq (y := nI 0) (hp) ?_
    refine lv_if_eq (tgt := 10) C0.1.1 C0.1.2.1 dX1_losable_5 (by decide) (fun _ => ?_) (fun c9 => absurd (by decide) c9)
    refine lv_aload_n C0.1.1 C0.1.2.1 dX1_losable_10 rfl (lv_at hl 0 rfl) ?_
    refine yg_ls C0 hin hz l_ls dX1_losable_11 ?_
    refine lv_iload_n C0.1.1 C0.1.2.1 dX1_losable_14 rfl (lv_at hl 1 rfl) ?_
    refine yl_ls C0 hz h (by omega) rfl dX1_losable_15 ?_
    refine gs_eq (y := bI (hs_o S h)) ((hS1.2.2.1 h hh hu).2.2.2) ?_
    refine lv_istore_n (lv' := [(3, .int (bI (hs_o S h))), (0, .ref (q 0)), (1, .int (nI h)), (2, .int (bI v))]) C0.1.1 C0.1.2.1 dX1_losable_16 rfl hl (by decide) rfl (fun ls hl => ?_)
    refine lv_aload_n C0.1.1 C0.1.2.1 dX1_losable_17 rfl (lv_at hl 1 rfl) ?_
    refine yg_ls C0 hin hz l_ls dX1_losable_18 ?_
    refine lv_iload_n C0.1.1 C0.1.2.1 dX1_losable_21 rfl (lv_at hl 2 rfl) ?_
    refine lv_iload_n C0.1.1 C0.1.2.1 dX1_losable_22 rfl (lv_at hl 3 rfl) ?_
    refine yt_ls C0 hz h (by omega) rfl (bI_nar _) dX1_losable_23 (fun H locs hz => ?_)
    refine lv_iload_n C0.1.1 C0.1.2.1 dX1_losable_24 rfl (lv_at hl 0 rfl) ?_
    exact gs_retz (ys_ls u (upd (y_ls u) h (bI v))) C0 hz (bI_nar _) (py_of (sp_has_h hh hu) th1 rfl (ry_ls hS1)) (Nat.le_of_ble_eq_true rfl) (Nat.le_of_ble_eq_true rfl) dX1_losable_25
  · skip
    refine gs_eq (y := nI 1) (hp) ?_
    refine lv_if_eq (tgt := 10) C0.1.1 C0.1.2.1 dX1_losable_5 (by decide) (fun c9 => absurd c9 (by decide)) (fun _ => ?_)
    refine lv_iconst (v := nI 0) C0.1.1 C0.1.2.1 dX1_losable_8 (by decide) ?_
    exact gs_retz u C0 hz (by decide) (py_x (sp_has_no hno) (by decide) th1 hS1) (Nat.le_of_ble_eq_true rfl) (Nat.le_of_ble_eq_true rfl) dX1_losable_9
  · skip
    refine gs_eq (y := nI 1) (hp) ?_
    refine lv_if_eq (tgt := 10) C0.1.1 C0.1.2.1 dX1_losable_5 (by decide) (fun c9 => absurd c9 (by decide)) (fun _ => ?_)
    refine lv_iconst (v := nI 0) C0.1.1 C0.1.2.1 dX1_losable_8 (by decide) ?_
    exact gs_retz u C0 hz (by decide) (py_x (sp_has_e hh hu) (by decide) th1 hS1) (Nat.le_of_ble_eq_true rfl) (Nat.le_of_ble_eq_true rfl) dX1_losable_9
set_option maxHeartbeats 4000000 in
set_option maxRecDepth 100000 in
/-- lose -/
theorem m_lose (l : Launch) (G : gs_G) (q : Nat → Nat) (r : yr) (S : hs_S) (hS : ry S r) (hI : hs_I S) (x : Int32) : gm_i l yX1_lose wsX1_lose (gm_rm 8 0 0) G (yw G q) r [.ref (q 0), .int x] (fun res u => py (sp_lose S x) res u) 0 0 := by
  refine gm_i.of (cc := cX1_lose) (nL := 2) (ret := (some .boolean)) (by decide +kernel) rfl (Nat.le_of_ble_eq_true rfl) ?_
  intro p e s m args below meth c ls C0 hz hl
  have hl : lv_has ls 2 [(0, .ref (q 0)), (1, .int x)] := hl
  refine lv_aload_n C0.1.1 C0.1.2.1 dX1_lose_0 rfl (lv_at hl 0 rfl) ?_
  refine lv_iload_n C0.1.1 C0.1.2.1 dX1_lose_1 rfl (lv_at hl 1 rfl) ?_
  refine gs_callVi (w := yw G q) (wr := []) C0.1 (m_notThere l G q r S hS hI x) (cwV 1 C0.1.2.2.2.2 gX1_lose_X1_notThere rfl rfl rfl (by decide +kernel) ⟨Nat.le_of_ble_eq_true rfl, Nat.le_of_ble_eq_true rfl⟩) (ci := 1) rfl rfl rfl (gs_nil hz) rfl hl.1 rfl (Nat.le_of_ble_eq_true rfl) dX1_lose_2 ⟨Nat.le_of_ble_eq_true rfl, Nat.le_of_ble_eq_true rfl⟩ (fun res u H locs hp hz => ?_)
  replace hz := gs_unnil hz
  obtain ⟨hS1, ⟨hp, th1, h, hh, rfl, hu⟩ | ⟨hp, th1, hno⟩ | ⟨hp, th1, h, hh, rfl, hu⟩⟩ := hp
  · skip
    have hsp : sp_lose S (nI h) = if hs_mv S h = true then (0, nI 1, hs_gu S h) else (0, nI 0, S) := sp_has_h hh hu
    refine gs_eq (y := nI 0) (hp) ?_
    refine lv_if_ne (tgt := 16) C0.1.1 C0.1.2.1 dX1_lose_5 (by decide) (fun c9 => absurd (by decide) c9) (fun _ => ?_)
    refine lv_aload_n C0.1.1 C0.1.2.1 dX1_lose_8 rfl (lv_at hl 0 rfl) ?_
    refine lv_iload_n C0.1.1 C0.1.2.1 dX1_lose_9 rfl (lv_at hl 1 rfl) ?_
    refine gs_callVi (w := yw G q) (wr := []) C0.1 (m_isMovable l G q u S hS1 hI h hh) (cwV 1 C0.1.2.2.2.2 gX1_lose_X1_isMovable rfl rfl rfl (by decide +kernel) ⟨Nat.le_of_ble_eq_true rfl, Nat.le_of_ble_eq_true rfl⟩) (ci := 1) rfl rfl rfl (gs_nil hz) rfl hl.1 rfl (Nat.le_of_ble_eq_true rfl) dX1_lose_10 ⟨Nat.le_of_ble_eq_true rfl, Nat.le_of_ble_eq_true rfl⟩ (fun res u9 H locs hp9 hz => ?_)
    replace hz := gs_unnil hz
    rw [hp9.1] at hz
    refine gs_eq (y := bI (decide (hs_u S h = 2 ∧ hs_mv S h = true))) (hp9.2) ?_
    clear hp9
    refine lv_if_ne (tgt := 18) C0.1.1 C0.1.2.1 dX1_lose_13 (by decide) (fun c1 => ?_) (fun c1 => ?_)
    · skip
      rw [bI_dn] at c1
      rw [if_pos c1.2] at hsp
      refine lv_aload_n C0.1.1 C0.1.2.1 dX1_lose_18 rfl (lv_at hl 0 rfl) ?_
      refine lv_iload_n C0.1.1 C0.1.2.1 dX1_lose_19 rfl (lv_at hl 1 rfl) ?_
      refine gs_callVv (w := yw G q) (wr := []) C0.1 (m_loseOne l G q u S hS1 h hh hu) (cwV 1 C0.1.2.2.2.2 gX1_lose_X1_loseOne rfl rfl rfl (by decide +kernel) ⟨Nat.le_of_ble_eq_true rfl, Nat.le_of_ble_eq_true rfl⟩) (ci := 1) rfl rfl rfl (gs_nil hz) rfl hl.1 rfl (Nat.le_of_ble_eq_true rfl) dX1_lose_20 ⟨Nat.le_of_ble_eq_true rfl, Nat.le_of_ble_eq_true rfl⟩ (fun u2 H locs hp hz => ?_)
      replace hz := gs_unnil hz
      refine lv_iconst (v := nI 1) C0.1.1 C0.1.2.1 dX1_lose_23 (by decide) ?_
      exact gs_retz u2 C0 hz (by decide) (py_of hsp (hp.2.trans th1) rfl hp.1) (Nat.le_of_ble_eq_true rfl) (Nat.le_of_ble_eq_true rfl) dX1_lose_24
    · skip
      rw [bI_d0] at c1
      rw [if_neg (fun z => c1 ⟨hu, z⟩)] at hsp
      refine lv_iconst (v := nI 0) C0.1.1 C0.1.2.1 dX1_lose_16 (by decide) ?_
      exact gs_retz u C0 hz (by decide) (py_of hsp th1 rfl hS1) (Nat.le_of_ble_eq_true rfl) (Nat.le_of_ble_eq_true rfl) dX1_lose_17
  · skip
    refine gs_eq (y := nI 1) (hp) ?_
    refine lv_if_ne (tgt := 16) C0.1.1 C0.1.2.1 dX1_lose_5 (by decide) (fun _ => ?_) (fun c9 => absurd c9 (by decide))
    refine lv_iconst (v := nI 0) C0.1.1 C0.1.2.1 dX1_lose_16 (by decide) ?_
    exact gs_retz u C0 hz (by decide) (py_x (sp_has_no hno) (by decide) th1 hS1) (Nat.le_of_ble_eq_true rfl) (Nat.le_of_ble_eq_true rfl) dX1_lose_17
  · skip
    refine gs_eq (y := nI 1) (hp) ?_
    refine lv_if_ne (tgt := 16) C0.1.1 C0.1.2.1 dX1_lose_5 (by decide) (fun _ => ?_) (fun c9 => absurd c9 (by decide))
    refine lv_iconst (v := nI 0) C0.1.1 C0.1.2.1 dX1_lose_16 (by decide) ?_
    exact gs_retz u C0 hz (by decide) (py_x (sp_has_e hh hu) (by decide) th1 hS1) (Nat.le_of_ble_eq_true rfl) (Nat.le_of_ble_eq_true rfl) dX1_lose_17
set_option maxHeartbeats 4000000 in
set_option maxRecDepth 100000 in
/-- lift -/
theorem m_lift (l : Launch) (G : gs_G) (q : Nat → Nat) (r : yr) (S : hs_S) (hS : ry S r) (hI : hs_I S) (x : Int32) : gm_i l yX1_lift wsX1_lift (gm_rm 8 0 0) G (yw G q) r [.ref (q 0), .int x] (fun res u => py (sp_lift S x) res u) 0 0 := by
  refine gm_i.of (cc := cX1_lift) (nL := 4) (ret := (some .int)) (by decide +kernel) rfl (Nat.le_of_ble_eq_true rfl) ?_
  intro p e s m args below meth c ls C0 hz hl
  have hin : ∀ w ∈ wsX10, w ∈ wsX1_lift := by decide +kernel
  have l_th : Cond.fieldLink RX1 33 "HandleHeapModel" "thrown" "I" ∈ wsX1_lift := by decide +kernel
  have l_bg : Cond.fieldLink RX1 13 "HandleHeapModel" "begin" "[I" ∈ wsX1_lift := by decide +kernel
  have l_sz : Cond.fieldLink RX1 17 "HandleHeapModel" "size" "[I" ∈ wsX1_lift := by decide +kernel
  have l_mv : Cond.fieldLink RX1 51 "HandleHeapModel" "moved" "I" ∈ wsX1_lift := by decide +kernel
  have hl : lv_has ls 4 [(0, .ref (q 0)), (1, .int x)] := hl
  refine lv_aload_n C0.1.1 C0.1.2.1 dX1_lift_0 rfl (lv_at hl 0 rfl) ?_
  refine lv_aload_n C0.1.1 C0.1.2.1 dX1_lift_1 rfl (lv_at hl 0 rfl) ?_
  refine lv_iload_n C0.1.1 C0.1.2.1 dX1_lift_2 rfl (lv_at hl 1 rfl) ?_
  refine gs_callVi (w := yw G q) (wr := []) C0.1 (m_notUsed l G q r S hS x) (cwV 1 C0.1.2.2.2.2 gX1_lift_X1_notUsed rfl rfl rfl (by decide +kernel) ⟨Nat.le_of_ble_eq_true rfl, Nat.le_of_ble_eq_true rfl⟩) (ci := 1) rfl rfl rfl (gs_nil hz) rfl hl.1 rfl (Nat.le_of_ble_eq_true rfl) dX1_lift_3 ⟨Nat.le_of_ble_eq_true rfl, Nat.le_of_ble_eq_true rfl⟩ (fun res u9 H locs hp9 hz => ?_)
  replace hz := gs_unnil hz
  obtain ⟨hpe, hp9⟩ := hp9
  rw [hpe] at hz
  rcases hp9 with ⟨hp9, h, hh, rfl, hu⟩ | ⟨hp9, hno⟩
  · skip
    refine gs_eq (y := nI 0) (hp9) ?_
    refine lv_if_eq (tgt := 13) C0.1.1 C0.1.2.1 dX1_lift_6 (by decide) (fun _ => ?_) (fun c9 => absurd (by decide) c9)
    refine lv_aload_n C0.1.1 C0.1.2.1 dX1_lift_13 rfl (lv_at hl 0 rfl) ?_
    refine lv_iload_n C0.1.1 C0.1.2.1 dX1_lift_14 rfl (lv_at hl 1 rfl) ?_
    refine gs_callVi (w := yw G q) (wr := []) C0.1 (m_isMovable l G q r S hS hI h hh) (cwV 1 C0.1.2.2.2.2 gX1_lift_X1_isMovable rfl rfl rfl (by decide +kernel) ⟨Nat.le_of_ble_eq_true rfl, Nat.le_of_ble_eq_true rfl⟩) (ci := 1) rfl rfl rfl (gs_nil hz) rfl hl.1 rfl (Nat.le_of_ble_eq_true rfl) dX1_lift_15 ⟨Nat.le_of_ble_eq_true rfl, Nat.le_of_ble_eq_true rfl⟩ (fun res u9 H locs hp9 hz => ?_)
    replace hz := gs_unnil hz
    rw [hp9.1] at hz
    refine gs_eq (y := bI (decide (hs_u S h = 2 ∧ hs_mv S h = true))) (hp9.2) ?_
    clear hp9
    refine lv_if_ne (tgt := 25) C0.1.1 C0.1.2.1 dX1_lift_18 (by decide) (fun c1 => ?_) (fun c1 => ?_)
    · skip
      rw [bI_dn] at c1
      obtain ⟨huh, hmv⟩ := c1
      have hsp : sp_lift S (nI h) = (0, nI (hs_fb S h), hs_go S h (hs_b S h + hs_fb S h)) := (sp_has_h hh huh).trans (if_pos hmv)
      refine lv_iconst (v := nI 0) C0.1.1 C0.1.2.1 dX1_lift_25 (by decide) ?_
      refine yp_th C0 hin hz l_th dX1_lift_26 (fun H locs hz => ?_)
      obtain ⟨r1, er1⟩ : ∃ z, z = ys_th r (nI 0) := ⟨_, rfl⟩
      rw [← er1] at hz
      refine lv_aload_n C0.1.1 C0.1.2.1 dX1_lift_29 rfl (lv_at hl 0 rfl) ?_
      refine yg_th C0 hin hz l_th dX1_lift_30 ?_
      refine gs_eq (y := nI 0) (by rw [er1]; rfl) ?_
      refine lv_if_le (tgt := 38) C0.1.1 C0.1.2.1 dX1_lift_33 (by decide) (fun _ => ?_) (fun c9 => absurd (by decide) c9)
      have hS1 : ry S r1 := by rw [er1]; exact hS
      have th1 : y_th r1 = nI 0 := by rw [er1]; rfl
      have hS3 := hS1.2.2.1 h hh huh
      have hbn := hI.bn hh huh
      obtain ⟨kx, ekx⟩ : ∃ z, z = hg_ix h (hs_R S) := ⟨_, rfl⟩
      have hix := hg_ix_ok ((hI.2.1 h).mpr ⟨hh, huh⟩)
      rw [← ekx] at hix
      have hgb : hs_gb S (kx + 1) = hs_b S h + hs_n S h := by show hs_b S (hg_at (hs_R S) kx) + hs_n S (hg_at (hs_R S) kx) = _; rw [hix.2]
      have hge := hs_ge_le hI (k := kx + 1) (by omega)
      have hfb : hs_ge S (kx + 1) - (hs_b S h + hs_n S h) = hs_fb S h := by unfold hs_fb; rw [← ekx, hs_gl_e, hgb]
      have hnk := hs_nk_gb hI (k := kx + 1) (by omega)
      rw [hgb] at hnk hge
      refine lv_aload_n C0.1.1 C0.1.2.1 dX1_lift_38 rfl (lv_at hl 0 rfl) ?_
      refine yg_bg C0 hin hz l_bg dX1_lift_39 ?_
      refine lv_iload_n C0.1.1 C0.1.2.1 dX1_lift_42 rfl (lv_at hl 1 rfl) ?_
      refine yl_bg C0 hz h (by omega) rfl dX1_lift_43 ?_
      refine gs_eq (y := nI (hs_b S h)) (hS3.1) ?_
      refine lv_aload_n C0.1.1 C0.1.2.1 dX1_lift_44 rfl (lv_at hl 0 rfl) ?_
      refine yg_sz C0 hin hz l_sz dX1_lift_45 ?_
      refine lv_iload_n C0.1.1 C0.1.2.1 dX1_lift_48 rfl (lv_at hl 1 rfl) ?_
      refine yl_sz C0 hz h (by omega) rfl dX1_lift_49 ?_
      refine gs_eq (y := nI (hs_n S h)) (hS1.2.1 h hh) ?_
      refine lv_iadd C0.1.1 C0.1.2.1 dX1_lift_50 ?_
      refine gs_eq (nI_add (hs_b S h) (hs_n S h)) ?_
      refine lv_istore_n (lv' := [(2, .int (nI ((hs_b S h) + (hs_n S h)))), (0, .ref (q 0)), (1, .int (nI h))]) C0.1.1 C0.1.2.1 dX1_lift_51 rfl hl (by decide) rfl (fun ls hl => ?_)
      refine lv_aload_n C0.1.1 C0.1.2.1 dX1_lift_52 rfl (lv_at hl 1 rfl) ?_
      refine lv_iload_n C0.1.1 C0.1.2.1 dX1_lift_53 rfl (lv_at hl 0 rfl) ?_
      refine gs_callVi (w := yw G q) (wr := []) C0.1 (m_freeTo l G q r1 S hS1 hI (hs_b S h + hs_n S h) (kx + 1) hnk) (cwV 1 C0.1.2.2.2.2 gX1_lift_X1_freeTo rfl rfl rfl (by decide +kernel) ⟨Nat.le_of_ble_eq_true rfl, Nat.le_of_ble_eq_true rfl⟩) (ci := 1) rfl rfl rfl (gs_nil hz) rfl hl.1 rfl (Nat.le_of_ble_eq_true rfl) dX1_lift_54 ⟨Nat.le_of_ble_eq_true rfl, Nat.le_of_ble_eq_true rfl⟩ (fun res u9 H locs hp9 hz => ?_)
      replace hz := gs_unnil hz
      rw [hp9.1] at hz
      refine gs_eq (y := nI (hs_ge S (kx + 1))) (hp9.2) ?_
      clear hp9
      refine lv_iload_n C0.1.1 C0.1.2.1 dX1_lift_57 rfl (lv_at hl 0 rfl) ?_
      refine lv_isub C0.1.1 C0.1.2.1 dX1_lift_58 ?_
      refine gs_eq (pk_sub (by omega)) ?_
      refine gs_eq (y := nI (hs_fb S h)) (by rw [hfb]) ?_
      refine lv_istore_n (lv' := [(3, .int (nI (hs_fb S h))), (2, .int (nI ((hs_b S h) + (hs_n S h)))), (0, .ref (q 0)), (1, .int (nI h))]) C0.1.1 C0.1.2.1 dX1_lift_59 rfl hl (by decide) rfl (fun ls hl => ?_)
      refine lv_aload_n C0.1.1 C0.1.2.1 dX1_lift_60 rfl (lv_at hl 2 rfl) ?_
      refine yg_bg C0 hin hz l_bg dX1_lift_61 ?_
      refine lv_iload_n C0.1.1 C0.1.2.1 dX1_lift_64 rfl (lv_at hl 3 rfl) ?_
      refine lv_aload_n C0.1.1 C0.1.2.1 dX1_lift_65 rfl (lv_at hl 2 rfl) ?_
      refine yg_bg C0 hin hz l_bg dX1_lift_66 ?_
      refine lv_iload_n C0.1.1 C0.1.2.1 dX1_lift_69 rfl (lv_at hl 3 rfl) ?_
      refine yl_bg C0 hz h (by omega) rfl dX1_lift_70 ?_
      refine gs_eq (y := nI (hs_b S h)) (hS3.1) ?_
      refine lv_iload_n C0.1.1 C0.1.2.1 dX1_lift_71 rfl (lv_at hl 0 rfl) ?_
      refine lv_iadd C0.1.1 C0.1.2.1 dX1_lift_72 ?_
      refine gs_eq (nI_add (hs_b S h) (hs_fb S h)) ?_
      refine yt_bg C0 hz h (by omega) rfl dX1_lift_73 (fun H locs hz => ?_)
      refine lv_aload_n C0.1.1 C0.1.2.1 dX1_lift_74 rfl (lv_at hl 2 rfl) ?_
      refine lv_iload_n C0.1.1 C0.1.2.1 dX1_lift_75 rfl (lv_at hl 0 rfl) ?_
      refine lv_if_le (tgt := 93) C0.1.1 C0.1.2.1 dX1_lift_76 (by decide) (fun c2 => ?_) (fun c2 => ?_)
      · rw [n0_le (by omega)] at c2
        refine lv_aload_n C0.1.1 C0.1.2.1 dX1_lift_93 rfl (lv_at hl 2 rfl) ?_
        refine yg_mv C0 hin hz l_mv dX1_lift_94 ?_
        refine yp_mv C0 hin hz l_mv dX1_lift_97 (fun H locs hz => ?_)
        refine lv_iload_n C0.1.1 C0.1.2.1 dX1_lift_100 rfl (lv_at hl 0 rfl) ?_
        exact gs_reti (ys_mv (ys_bg r1 (upd (y_bg r1) h (nI ((hs_b S h) + (hs_fb S h))))) (y_mv (ys_bg r1 (upd (y_bg r1) h (nI ((hs_b S h) + (hs_fb S h))))))) C0 hz (py_of hsp th1 rfl (ry_goz hS1 (by omega))) (Nat.le_of_ble_eq_true rfl) (Nat.le_of_ble_eq_true rfl) dX1_lift_101
      · rw [n0_le (by omega)] at c2
        refine lv_aload_n C0.1.1 C0.1.2.1 dX1_lift_79 rfl (lv_at hl 2 rfl) ?_
        refine yg_mv C0 hin hz l_mv dX1_lift_80 ?_
        refine lv_aload_n C0.1.1 C0.1.2.1 dX1_lift_83 rfl (lv_at hl 2 rfl) ?_
        refine yg_sz C0 hin hz l_sz dX1_lift_84 ?_
        refine lv_iload_n C0.1.1 C0.1.2.1 dX1_lift_87 rfl (lv_at hl 3 rfl) ?_
        refine yl_sz C0 hz h (by omega) rfl dX1_lift_88 ?_
        refine gs_eq (y := nI (hs_n S h)) (hS1.2.1 h hh) ?_
        refine lv_iadd C0.1.1 C0.1.2.1 dX1_lift_89 ?_
        refine lv_goto (tgt := 97) C0.1.1 C0.1.2.1 dX1_lift_90 (by decide) ?_
        refine yp_mv C0 hin hz l_mv dX1_lift_97 (fun H locs hz => ?_)
        refine lv_iload_n C0.1.1 C0.1.2.1 dX1_lift_100 rfl (lv_at hl 0 rfl) ?_
        exact gs_reti (ys_mv (ys_bg r1 (upd (y_bg r1) h (nI ((hs_b S h) + (hs_fb S h))))) ((y_mv (ys_bg r1 (upd (y_bg r1) h (nI ((hs_b S h) + (hs_fb S h)))))) + (nI (hs_n S h)))) C0 hz (py_of hsp th1 rfl (ry_go1 hS1 (by omega))) (Nat.le_of_ble_eq_true rfl) (Nat.le_of_ble_eq_true rfl) dX1_lift_101
    · skip
      rw [bI_d0] at c1
      have hsp : sp_lift S (nI h) = (2, 0, S) := by
        by_cases z : hs_u S h = 2
        · exact (sp_has_h hh z).trans (if_neg (fun w => c1 ⟨z, w⟩))
        · exact sp_has_e hh (by have := hI.u2 hh; omega)
      refine lv_iconst (v := nI 2) C0.1.1 C0.1.2.1 dX1_lift_21 (by decide) ?_
      refine lv_goto (tgt := 26) C0.1.1 C0.1.2.1 dX1_lift_22 (by decide) ?_
      refine yp_th C0 hin hz l_th dX1_lift_26 (fun H locs hz => ?_)
      obtain ⟨r1, er1⟩ : ∃ z, z = ys_th r (nI 2) := ⟨_, rfl⟩
      rw [← er1] at hz
      refine lv_aload_n C0.1.1 C0.1.2.1 dX1_lift_29 rfl (lv_at hl 0 rfl) ?_
      refine yg_th C0 hin hz l_th dX1_lift_30 ?_
      refine gs_eq (y := nI 2) (by rw [er1]; rfl) ?_
      refine lv_if_le (tgt := 38) C0.1.1 C0.1.2.1 dX1_lift_33 (by decide) (fun c9 => absurd c9 (by decide)) (fun _ => ?_)
      refine lv_iconst (v := nI 0) C0.1.1 C0.1.2.1 dX1_lift_36 (by decide) ?_
      exact gs_reti r1 C0 hz (py_x hsp (by decide) (by rw [er1]; rfl) (by rw [er1]; exact hS)) (Nat.le_of_ble_eq_true rfl) (Nat.le_of_ble_eq_true rfl) dX1_lift_37
  · skip
    refine gs_eq (y := nI 1) (hp9) ?_
    refine lv_if_eq (tgt := 13) C0.1.1 C0.1.2.1 dX1_lift_6 (by decide) (fun c9 => absurd c9 (by decide)) (fun _ => ?_)
    refine lv_iconst (v := nI 1) C0.1.1 C0.1.2.1 dX1_lift_9 (by decide) ?_
    refine lv_goto (tgt := 26) C0.1.1 C0.1.2.1 dX1_lift_10 (by decide) ?_
    refine yp_th C0 hin hz l_th dX1_lift_26 (fun H locs hz => ?_)
    obtain ⟨r1, er1⟩ : ∃ z, z = ys_th r (nI 1) := ⟨_, rfl⟩
    rw [← er1] at hz
    refine lv_aload_n C0.1.1 C0.1.2.1 dX1_lift_29 rfl (lv_at hl 0 rfl) ?_
    refine yg_th C0 hin hz l_th dX1_lift_30 ?_
    refine gs_eq (y := nI 1) (by rw [er1]; rfl) ?_
    refine lv_if_le (tgt := 38) C0.1.1 C0.1.2.1 dX1_lift_33 (by decide) (fun c9 => absurd c9 (by decide)) (fun _ => ?_)
    refine lv_iconst (v := nI 0) C0.1.1 C0.1.2.1 dX1_lift_36 (by decide) ?_
    exact gs_reti r1 C0 hz (py_x (sp_has_no hno) (by decide) (by rw [er1]; rfl) (by rw [er1]; exact hS)) (Nat.le_of_ble_eq_true rfl) (Nat.le_of_ble_eq_true rfl) dX1_lift_37
set_option maxHeartbeats 4000000 in
set_option maxRecDepth 100000 in
/-- slide -/
theorem m_slide (l : Launch) (G : gs_G) (q : Nat → Nat) (r : yr) (S : hs_S) (hS : ry S r) (hI : hs_I S) : gm_i l yX1_slide wsX1_slide (gm_rm 8 0 0) G (yw G q) r [.ref (q 0)] (fun res u => py (sp_slide S) res u) 0 0 := by
  refine gm_i.of (cc := cX1_slide) (nL := 1) (ret := (some .int)) (by decide +kernel) rfl (Nat.le_of_ble_eq_true rfl) ?_
  intro p e s m args below meth c ls C0 hz hl
  have hin : ∀ w ∈ wsX10, w ∈ wsX1_slide := by decide +kernel
  have l_th : Cond.fieldLink RX1 33 "HandleHeapModel" "thrown" "I" ∈ wsX1_slide := by decide +kernel
  have hl : lv_has ls 1 [(0, .ref (q 0))] := hl
  refine lv_aload_n C0.1.1 C0.1.2.1 dX1_slide_0 rfl (lv_at hl 0 rfl) ?_
  refine lv_iconst (v := nI 0) C0.1.1 C0.1.2.1 dX1_slide_1 (by decide) ?_
  refine yp_th C0 hin hz l_th dX1_slide_2 (fun H locs hz => ?_)
  obtain ⟨r1, er1⟩ : ∃ z, z = ys_th r (nI 0) := ⟨_, rfl⟩
  rw [← er1] at hz
  refine lv_aload_n C0.1.1 C0.1.2.1 dX1_slide_5 rfl (lv_at hl 0 rfl) ?_
  have hS1 : ry S r1 := by rw [er1]; exact hS
  have th1 : y_th r1 = nI 0 := by rw [er1]; rfl
  refine gs_callVv (w := yw G q) (wr := []) C0.1 (m_slideAll l G q r1 S hS1 hI) (cwV 0 C0.1.2.2.2.2 gX1_slide_X1_slideAll rfl rfl rfl (by decide +kernel) ⟨Nat.le_of_ble_eq_true rfl, Nat.le_of_ble_eq_true rfl⟩) (ci := 1) rfl rfl rfl (gs_nil hz) rfl hl.1 rfl (Nat.le_of_ble_eq_true rfl) dX1_slide_6 ⟨Nat.le_of_ble_eq_true rfl, Nat.le_of_ble_eq_true rfl⟩ (fun u H locs hp hz => ?_)
  replace hz := gs_unnil hz
  refine lv_aload_n C0.1.1 C0.1.2.1 dX1_slide_9 rfl (lv_at hl 0 rfl) ?_
  refine gs_callVi (w := yw G q) (wr := []) C0.1 (m_greatest l G q u (hs_sl S) hp.1 (hs_sl_I hI)) (cwV 0 C0.1.2.2.2.2 gX1_slide_X1_greatest rfl rfl rfl (by decide +kernel) ⟨Nat.le_of_ble_eq_true rfl, Nat.le_of_ble_eq_true rfl⟩) (ci := 1) rfl rfl rfl (gs_nil hz) rfl hl.1 rfl (Nat.le_of_ble_eq_true rfl) dX1_slide_10 ⟨Nat.le_of_ble_eq_true rfl, Nat.le_of_ble_eq_true rfl⟩ (fun res u9 H locs hp9 hz => ?_)
  replace hz := gs_unnil hz
  rw [hp9.1] at hz
  refine gs_eq (y := nI (hs_gg (hs_sl S))) (hp9.2) ?_
  clear hp9
  exact gs_reti u C0 hz (py_of (t := sp_slide S) rfl (hp.2.trans th1) rfl hp.1) (Nat.le_of_ble_eq_true rfl) (Nat.le_of_ble_eq_true rfl) dX1_slide_13
set_option maxHeartbeats 4000000 in
set_option maxRecDepth 100000 in
/-- where -/
theorem m_where (l : Launch) (G : gs_G) (q : Nat → Nat) (r : yr) (S : hs_S) (hS : ry S r) (hI : hs_I S) (x : Int32) : gm_i l yX1_where wsX1_where (gm_rm 8 0 0) G (yw G q) r [.ref (q 0), .int x] (fun res u => py (sp_where S x) res u) 0 0 := by
  refine gm_i.of (cc := cX1_where) (nL := 2) (ret := (some .int)) (by decide +kernel) rfl (Nat.le_of_ble_eq_true rfl) ?_
  intro p e s m args below meth c ls C0 hz hl
  have hin : ∀ w ∈ wsX10, w ∈ wsX1_where := by decide +kernel
  have l_th : Cond.fieldLink RX1 33 "HandleHeapModel" "thrown" "I" ∈ wsX1_where := by decide +kernel
  have l_us : Cond.fieldLink RX1 7 "HandleHeapModel" "used" "[Z" ∈ wsX1_where := by decide +kernel
  have l_sz : Cond.fieldLink RX1 17 "HandleHeapModel" "size" "[I" ∈ wsX1_where := by decide +kernel
  have l_bg : Cond.fieldLink RX1 13 "HandleHeapModel" "begin" "[I" ∈ wsX1_where := by decide +kernel
  have hl : lv_has ls 2 [(0, .ref (q 0)), (1, .int x)] := hl
  refine lv_aload_n C0.1.1 C0.1.2.1 dX1_where_0 rfl (lv_at hl 0 rfl) ?_
  refine lv_iload_n C0.1.1 C0.1.2.1 dX1_where_1 rfl (lv_at hl 1 rfl) ?_
  refine lv_if_lt (tgt := 11) C0.1.1 C0.1.2.1 dX1_where_2 (by decide) (fun c1 => ?_) (fun c1 => ?_)
  · skip
    refine lv_iconst (v := nI 1) C0.1.1 C0.1.2.1 dX1_where_11 (by decide) ?_
    refine lv_goto (tgt := 16) C0.1.1 C0.1.2.1 dX1_where_12 (by decide) ?_
    refine yp_th C0 hin hz l_th dX1_where_16 (fun H locs hz => ?_)
    obtain ⟨r1, er1⟩ : ∃ z, z = ys_th r (nI 1) := ⟨_, rfl⟩
    rw [← er1] at hz
    refine lv_aload_n C0.1.1 C0.1.2.1 dX1_where_19 rfl (lv_at hl 0 rfl) ?_
    refine yg_th C0 hin hz l_th dX1_where_20 ?_
    refine gs_eq (y := nI 1) (by rw [er1]; rfl) ?_
    refine lv_if_le (tgt := 28) C0.1.1 C0.1.2.1 dX1_where_23 (by decide) (fun c9 => absurd c9 (by decide)) (fun _ => ?_)
    refine lv_iconst (v := nI 0) C0.1.1 C0.1.2.1 dX1_where_26 (by decide) ?_
    exact gs_reti r1 C0 hz (py_x (sp_where_x (fun ⟨k, h2, h3⟩ => by rw [h3] at c1; exact nI_pos (by omega) c1)) (by decide) (by rw [er1]; rfl) (by rw [er1]; exact hS)) (Nat.le_of_ble_eq_true rfl) (Nat.le_of_ble_eq_true rfl) dX1_where_27
  · skip
    obtain ⟨h, hh0, rfl⟩ := nI_of c1
    refine lv_iload_n C0.1.1 C0.1.2.1 dX1_where_5 rfl (lv_at hl 1 rfl) ?_
    refine lv_bipush (v := nI 48) C0.1.1 C0.1.2.1 dX1_where_6 (by decide) ?_
    refine lv_icmp_lt (tgt := 15) C0.1.1 C0.1.2.1 dX1_where_8 (by decide) (fun c2 => ?_) (fun c2 => ?_)
    · rw [nI_ltI (by omega) (by omega)] at c2
      have hsp := sp_where_h (S := S) c2
      have hn1 := hI.n1024 c2
      have hn0 := hI.n0 c2
      have hu2 := hI.u2 c2
      refine lv_iconst (v := nI 0) C0.1.1 C0.1.2.1 dX1_where_15 (by decide) ?_
      refine yp_th C0 hin hz l_th dX1_where_16 (fun H locs hz => ?_)
      obtain ⟨r1, er1⟩ : ∃ z, z = ys_th r (nI 0) := ⟨_, rfl⟩
      rw [← er1] at hz
      refine lv_aload_n C0.1.1 C0.1.2.1 dX1_where_19 rfl (lv_at hl 0 rfl) ?_
      refine yg_th C0 hin hz l_th dX1_where_20 ?_
      refine gs_eq (y := nI 0) (by rw [er1]; rfl) ?_
      refine lv_if_le (tgt := 28) C0.1.1 C0.1.2.1 dX1_where_23 (by decide) (fun _ => ?_) (fun c9 => absurd (by decide) c9)
      have hS1 : ry S r1 := by rw [er1]; exact hS
      have th1 : y_th r1 = nI 0 := by rw [er1]; rfl
      refine lv_aload_n C0.1.1 C0.1.2.1 dX1_where_28 rfl (lv_at hl 0 rfl) ?_
      refine yg_us C0 hin hz l_us dX1_where_29 ?_
      refine lv_iload_n C0.1.1 C0.1.2.1 dX1_where_32 rfl (lv_at hl 1 rfl) ?_
      refine yl_us C0 hz h (by omega) rfl dX1_where_33 ?_
      refine gs_eq (y := bI (decide (hs_u S h ≠ 0))) (hS1.1 h c2) ?_
      refine lv_if_ne (tgt := 41) C0.1.1 C0.1.2.1 dX1_where_34 (by decide) (fun c3 => ?_) (fun c3 => ?_)
      · skip
        rw [bI_dn] at c3
        refine lv_aload_n C0.1.1 C0.1.2.1 dX1_where_41 rfl (lv_at hl 0 rfl) ?_
        refine yg_sz C0 hin hz l_sz dX1_where_42 ?_
        refine lv_iload_n C0.1.1 C0.1.2.1 dX1_where_45 rfl (lv_at hl 1 rfl) ?_
        refine yl_sz C0 hz h (by omega) rfl dX1_where_46 ?_
        refine gs_eq (y := nI (hs_n S h)) (hS1.2.1 h c2) ?_
        refine lv_if_ne (tgt := 55) C0.1.1 C0.1.2.1 dX1_where_47 (by decide) (fun c4 => ?_) (fun c4 => ?_)
        · rw [n0_eq (by omega)] at c4
          have huh : hs_u S h = 2 := hn0.mp (by omega)
          refine lv_aload_n C0.1.1 C0.1.2.1 dX1_where_55 rfl (lv_at hl 0 rfl) ?_
          refine yg_bg C0 hin hz l_bg dX1_where_56 ?_
          refine lv_iload_n C0.1.1 C0.1.2.1 dX1_where_59 rfl (lv_at hl 1 rfl) ?_
          refine yl_bg C0 hz h (by omega) rfl dX1_where_60 ?_
          refine gs_eq (y := nI (hs_b S h)) ((hS1.2.2.1 h c2 huh).1) ?_
          exact gs_reti r1 C0 hz (py_of hsp th1 (by rw [xb_2 huh]) hS1) (Nat.le_of_ble_eq_true rfl) (Nat.le_of_ble_eq_true rfl) dX1_where_61
        · rw [n0_eq (by omega)] at c4
          refine lv_bipush (v := (-2)) C0.1.1 C0.1.2.1 dX1_where_50 (by decide) ?_
          refine lv_goto (tgt := 61) C0.1.1 C0.1.2.1 dX1_where_52 (by decide) ?_
          exact gs_reti r1 C0 hz (py_of hsp th1 (by unfold xb; rw [if_neg c3, if_pos (by omega)]) hS1) (Nat.le_of_ble_eq_true rfl) (Nat.le_of_ble_eq_true rfl) dX1_where_61
      · skip
        rw [bI_d0, Decidable.not_not] at c3
        refine lv_iconst (v := (-1)) C0.1.1 C0.1.2.1 dX1_where_37 (by decide) ?_
        refine lv_goto (tgt := 61) C0.1.1 C0.1.2.1 dX1_where_38 (by decide) ?_
        exact gs_reti r1 C0 hz (py_of hsp th1 (by unfold xb; rw [if_pos c3]) hS1) (Nat.le_of_ble_eq_true rfl) (Nat.le_of_ble_eq_true rfl) dX1_where_61
    · rw [nI_ltI (by omega) (by omega)] at c2
      refine lv_iconst (v := nI 1) C0.1.1 C0.1.2.1 dX1_where_11 (by decide) ?_
      refine lv_goto (tgt := 16) C0.1.1 C0.1.2.1 dX1_where_12 (by decide) ?_
      refine yp_th C0 hin hz l_th dX1_where_16 (fun H locs hz => ?_)
      obtain ⟨r1, er1⟩ : ∃ z, z = ys_th r (nI 1) := ⟨_, rfl⟩
      rw [← er1] at hz
      refine lv_aload_n C0.1.1 C0.1.2.1 dX1_where_19 rfl (lv_at hl 0 rfl) ?_
      refine yg_th C0 hin hz l_th dX1_where_20 ?_
      refine gs_eq (y := nI 1) (by rw [er1]; rfl) ?_
      refine lv_if_le (tgt := 28) C0.1.1 C0.1.2.1 dX1_where_23 (by decide) (fun c9 => absurd c9 (by decide)) (fun _ => ?_)
      refine lv_iconst (v := nI 0) C0.1.1 C0.1.2.1 dX1_where_26 (by decide) ?_
      exact gs_reti r1 C0 hz (py_x (sp_where_x (fun ⟨k, h2, h3⟩ => by rw [nI_eq hh0 (by omega)] at h3; omega)) (by decide) (by rw [er1]; rfl) (by rw [er1]; exact hS)) (Nat.le_of_ble_eq_true rfl) (Nat.le_of_ble_eq_true rfl) dX1_where_27
set_option maxHeartbeats 4000000 in
set_option maxRecDepth 100000 in
/-- size -/
theorem m_size (l : Launch) (G : gs_G) (q : Nat → Nat) (r : yr) (S : hs_S) (hS : ry S r) (x : Int32) : gm_i l yX1_size wsX1_size (gm_rm 8 0 0) G (yw G q) r [.ref (q 0), .int x] (fun res u => py (sp_size S x) res u) 0 0 := by
  refine gm_i.of (cc := cX1_size) (nL := 2) (ret := (some .int)) (by decide +kernel) rfl (Nat.le_of_ble_eq_true rfl) ?_
  intro p e s m args below meth c ls C0 hz hl
  have hin : ∀ w ∈ wsX10, w ∈ wsX1_size := by decide +kernel
  have l_th : Cond.fieldLink RX1 33 "HandleHeapModel" "thrown" "I" ∈ wsX1_size := by decide +kernel
  have l_sz : Cond.fieldLink RX1 17 "HandleHeapModel" "size" "[I" ∈ wsX1_size := by decide +kernel
  have hl : lv_has ls 2 [(0, .ref (q 0)), (1, .int x)] := hl
  refine lv_aload_n C0.1.1 C0.1.2.1 dX1_size_0 rfl (lv_at hl 0 rfl) ?_
  refine lv_iload_n C0.1.1 C0.1.2.1 dX1_size_1 rfl (lv_at hl 1 rfl) ?_
  refine lv_if_lt (tgt := 11) C0.1.1 C0.1.2.1 dX1_size_2 (by decide) (fun c1 => ?_) (fun c1 => ?_)
  · skip
    refine lv_iconst (v := nI 1) C0.1.1 C0.1.2.1 dX1_size_11 (by decide) ?_
    refine lv_goto (tgt := 16) C0.1.1 C0.1.2.1 dX1_size_12 (by decide) ?_
    refine yp_th C0 hin hz l_th dX1_size_16 (fun H locs hz => ?_)
    obtain ⟨r1, er1⟩ : ∃ z, z = ys_th r (nI 1) := ⟨_, rfl⟩
    rw [← er1] at hz
    refine lv_aload_n C0.1.1 C0.1.2.1 dX1_size_19 rfl (lv_at hl 0 rfl) ?_
    refine yg_th C0 hin hz l_th dX1_size_20 ?_
    refine gs_eq (y := nI 1) (by rw [er1]; rfl) ?_
    refine lv_if_le (tgt := 30) C0.1.1 C0.1.2.1 dX1_size_23 (by decide) (fun c9 => absurd c9 (by decide)) (fun _ => ?_)
    refine lv_iconst (v := nI 0) C0.1.1 C0.1.2.1 dX1_size_26 (by decide) ?_
    refine lv_goto (tgt := 36) C0.1.1 C0.1.2.1 dX1_size_27 (by decide) ?_
    exact gs_reti r1 C0 hz (py_x (sp_size_x (fun ⟨k, h2, h3⟩ => by rw [h3] at c1; exact nI_pos (by omega) c1)) (by decide) (by rw [er1]; rfl) (by rw [er1]; exact hS)) (Nat.le_of_ble_eq_true rfl) (Nat.le_of_ble_eq_true rfl) dX1_size_36
  · skip
    obtain ⟨h, hh0, rfl⟩ := nI_of c1
    refine lv_iload_n C0.1.1 C0.1.2.1 dX1_size_5 rfl (lv_at hl 1 rfl) ?_
    refine lv_bipush (v := nI 48) C0.1.1 C0.1.2.1 dX1_size_6 (by decide) ?_
    refine lv_icmp_lt (tgt := 15) C0.1.1 C0.1.2.1 dX1_size_8 (by decide) (fun c2 => ?_) (fun c2 => ?_)
    · rw [nI_ltI (by omega) (by omega)] at c2
      refine lv_iconst (v := nI 0) C0.1.1 C0.1.2.1 dX1_size_15 (by decide) ?_
      refine yp_th C0 hin hz l_th dX1_size_16 (fun H locs hz => ?_)
      obtain ⟨r1, er1⟩ : ∃ z, z = ys_th r (nI 0) := ⟨_, rfl⟩
      rw [← er1] at hz
      refine lv_aload_n C0.1.1 C0.1.2.1 dX1_size_19 rfl (lv_at hl 0 rfl) ?_
      refine yg_th C0 hin hz l_th dX1_size_20 ?_
      refine gs_eq (y := nI 0) (by rw [er1]; rfl) ?_
      refine lv_if_le (tgt := 30) C0.1.1 C0.1.2.1 dX1_size_23 (by decide) (fun _ => ?_) (fun c9 => absurd (by decide) c9)
      have hS1 : ry S r1 := by rw [er1]; exact hS
      refine lv_aload_n C0.1.1 C0.1.2.1 dX1_size_30 rfl (lv_at hl 0 rfl) ?_
      refine yg_sz C0 hin hz l_sz dX1_size_31 ?_
      refine lv_iload_n C0.1.1 C0.1.2.1 dX1_size_34 rfl (lv_at hl 1 rfl) ?_
      refine yl_sz C0 hz h (by omega) rfl dX1_size_35 ?_
      refine gs_eq (y := nI (hs_n S h)) (hS1.2.1 h c2) ?_
      exact gs_reti r1 C0 hz (py_of (sp_size_h c2) (by rw [er1]; rfl) rfl hS1) (Nat.le_of_ble_eq_true rfl) (Nat.le_of_ble_eq_true rfl) dX1_size_36
    · rw [nI_ltI (by omega) (by omega)] at c2
      refine lv_iconst (v := nI 1) C0.1.1 C0.1.2.1 dX1_size_11 (by decide) ?_
      refine lv_goto (tgt := 16) C0.1.1 C0.1.2.1 dX1_size_12 (by decide) ?_
      refine yp_th C0 hin hz l_th dX1_size_16 (fun H locs hz => ?_)
      obtain ⟨r1, er1⟩ : ∃ z, z = ys_th r (nI 1) := ⟨_, rfl⟩
      rw [← er1] at hz
      refine lv_aload_n C0.1.1 C0.1.2.1 dX1_size_19 rfl (lv_at hl 0 rfl) ?_
      refine yg_th C0 hin hz l_th dX1_size_20 ?_
      refine gs_eq (y := nI 1) (by rw [er1]; rfl) ?_
      refine lv_if_le (tgt := 30) C0.1.1 C0.1.2.1 dX1_size_23 (by decide) (fun c9 => absurd c9 (by decide)) (fun _ => ?_)
      refine lv_iconst (v := nI 0) C0.1.1 C0.1.2.1 dX1_size_26 (by decide) ?_
      refine lv_goto (tgt := 36) C0.1.1 C0.1.2.1 dX1_size_27 (by decide) ?_
      exact gs_reti r1 C0 hz (py_x (sp_size_x (fun ⟨k, h2, h3⟩ => by rw [nI_eq hh0 (by omega)] at h3; omega)) (by decide) (by rw [er1]; rfl) (by rw [er1]; exact hS)) (Nat.le_of_ble_eq_true rfl) (Nat.le_of_ble_eq_true rfl) dX1_size_36
set_option maxHeartbeats 4000000 in
set_option maxRecDepth 100000 in
/-- thrown -/
theorem m_thrown (l : Launch) (G : gs_G) (q : Nat → Nat) (r : yr) : gm_i l yX1_thrown wsX1_thrown (gm_rm 1 0 0) G (yw G q) r [.ref (q 0)] (fun res u => u = r ∧ res = y_th r) 0 0 := by
  refine gm_i.of (cc := cX1_thrown) (nL := 1) (ret := (some .int)) (by decide +kernel) rfl (Nat.le_of_ble_eq_true rfl) ?_
  intro p e s m args below meth c ls C0 hz hl
  have hin : ∀ w ∈ wsX10, w ∈ wsX1_thrown := by decide +kernel
  have l_th : Cond.fieldLink RX1 33 "HandleHeapModel" "thrown" "I" ∈ wsX1_thrown := by decide +kernel
  have hl : lv_has ls 1 [(0, .ref (q 0))] := hl
  refine lv_aload_n C0.1.1 C0.1.2.1 dX1_thrown_0 rfl (lv_at hl 0 rfl) ?_
  refine yg_th C0 hin hz l_th dX1_thrown_1 ?_
  exact gs_reti r C0 hz (⟨rfl, rfl⟩) (Nat.le_of_ble_eq_true rfl) (Nat.le_of_ble_eq_true rfl) dX1_thrown_4
