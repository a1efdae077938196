/-! THE REFERENCE: clear, put, get, owner, told -/
set_option maxHeartbeats 4000000 in
set_option maxRecDepth 100000 in
/-- clear -/
theorem m_clear (l : Launch) (G : gs_G) (q : Nat → Nat) (r : yr) (S : hs_S) (hS : ry S r) (hI : hs_I S) (x : Int32) : gm_i l yX1_clear wsX1_clear (gm_rm 8 0 0) G (yw G q) r [.ref (q 0), .int x] (fun res u => py (sp_clear S x) res u) 0 0 := by
  refine gm_i.of (cc := cX1_clear) (nL := 3) (ret := (some .int)) (by decide +kernel) rfl (Nat.le_of_ble_eq_true rfl) ?_
  intro p e s m args below meth c ls C0 hz hl
  have hin : ∀ w ∈ wsX10, w ∈ wsX1_clear := by decide +kernel
  have l_th : Cond.fieldLink RX1 33 "HandleHeapModel" "thrown" "I" ∈ wsX1_clear := by decide +kernel
  have hl : lv_has ls 3 [(0, .ref (q 0)), (1, .int x)] := hl
  refine lv_aload_n C0.1.1 C0.1.2.1 dX1_clear_0 rfl (lv_at hl 0 rfl) ?_
  refine lv_iload_n C0.1.1 C0.1.2.1 dX1_clear_1 rfl (lv_at hl 1 rfl) ?_
  refine lv_if_lt (tgt := 12) C0.1.1 C0.1.2.1 dX1_clear_2 (by decide) (fun c1 => ?_) (fun c1 => ?_)
  · skip
    refine lv_iconst (v := nI 1) C0.1.1 C0.1.2.1 dX1_clear_12 (by decide) ?_
    refine lv_goto (tgt := 17) C0.1.1 C0.1.2.1 dX1_clear_13 (by decide) ?_
    refine yp_th C0 hin hz l_th dX1_clear_17 (fun H locs hz => ?_)
    obtain ⟨r1, er1⟩ : ∃ z, z = ys_th r (nI 1) := ⟨_, rfl⟩
    rw [← er1] at hz
    refine lv_iconst (v := nI 0) C0.1.1 C0.1.2.1 dX1_clear_20 (by decide) ?_
    refine lv_istore_n (lv' := [(2, .int (nI 0)), (0, .ref (q 0)), (1, .int x)]) C0.1.1 C0.1.2.1 dX1_clear_21 rfl hl (by decide) rfl (fun ls hl => ?_)
    refine lv_aload_n C0.1.1 C0.1.2.1 dX1_clear_22 rfl (lv_at hl 1 rfl) ?_
    refine yg_th C0 hin hz l_th dX1_clear_23 ?_
    refine gs_eq (y := nI 1) (by rw [er1]; rfl) ?_
    refine lv_if_ne (tgt := 64) C0.1.1 C0.1.2.1 dX1_clear_26 (by decide) (fun _ => ?_) (fun c9 => absurd c9 (by decide))
    refine lv_iload_n C0.1.1 C0.1.2.1 dX1_clear_64 rfl (lv_at hl 0 rfl) ?_
    exact gs_reti r1 C0 hz (py_x (sp_clear_x (fun ⟨k, _, h2, h3⟩ => by rw [h3] at c1; exact nI_pos (by omega) c1)) (by decide) (by rw [er1]; rfl) (by rw [er1]; exact hS)) (Nat.le_of_ble_eq_true rfl) (Nat.le_of_ble_eq_true rfl) dX1_clear_65
  · skip
    obtain ⟨n, hn0, rfl⟩ := nI_of c1
    refine lv_iload_n C0.1.1 C0.1.2.1 dX1_clear_5 rfl (lv_at hl 1 rfl) ?_
    refine lv_sipush (v := nI 1024) C0.1.1 C0.1.2.1 dX1_clear_6 (by decide) ?_
    refine lv_icmp_le (tgt := 16) C0.1.1 C0.1.2.1 dX1_clear_9 (by decide) (fun c2 => ?_) (fun c2 => ?_)
    · rw [nI_leI (by omega) (by omega)] at c2
      have hsp := sp_clear_h (S := S) c2
      refine lv_iconst (v := nI 0) C0.1.1 C0.1.2.1 dX1_clear_16 (by decide) ?_
      refine yp_th C0 hin hz l_th dX1_clear_17 (fun H locs hz => ?_)
      obtain ⟨r1, er1⟩ : ∃ z, z = ys_th r (nI 0) := ⟨_, rfl⟩
      rw [← er1] at hz
      refine lv_iconst (v := nI 0) C0.1.1 C0.1.2.1 dX1_clear_20 (by decide) ?_
      refine lv_istore_n (lv' := [(2, .int (nI 0)), (0, .ref (q 0)), (1, .int (nI n))]) C0.1.1 C0.1.2.1 dX1_clear_21 rfl hl (by decide) rfl (fun ls hl => ?_)
      have hS1 : ry S r1 := by rw [er1]; exact hS
      have th1 : y_th r1 = nI 0 := by rw [er1]; rfl
      have hl : lv_has ls 3 [(0, .ref (q 0)), (1, .int (nI n)), (2, .int (nI 0))] := lv_sub hl [1, 2, 0] rfl
      refine (?loop : ∀ (d k : Nat) (T : hs_S) (rk : yr) (ls : Array Slot) (H : Heap) (locs : List Loc), gs_Z G (yw G q rk) _ s H locs → (hs_R T).length ≤ d → ry T rk → y_th rk = nI 0 → hs_I T → hs_cl n 48 S 0 = hs_cl n d T k → lv_has ls 3 [(0, .ref (q 0)), (1, .int (nI n)), (2, .int (nI k))] → W p l e _ s m args below meth c H locs 0 0 _ (F0 m 22 ls [])) 48 0 S r1 ls _ _ hz hI.J.len hS1 th1 hI rfl hl
      intro d
      induction d using Nat.strongRecOn with
      | _ d ih =>
        intro k T rk ls H locs hz hd hT hth hIT key hl
        have hgg := hs_gg_le hIT.J
        refine lv_aload_n C0.1.1 C0.1.2.1 dX1_clear_22 rfl (lv_at hl 0 rfl) ?_
        refine yg_th C0 hin hz l_th dX1_clear_23 ?_
        refine gs_eq (y := nI 0) (hth) ?_
        refine lv_if_ne (tgt := 64) C0.1.1 C0.1.2.1 dX1_clear_26 (by decide) (fun c9 => absurd (by decide) c9) (fun _ => ?_)
        refine lv_aload_n C0.1.1 C0.1.2.1 dX1_clear_29 rfl (lv_at hl 0 rfl) ?_
        refine gs_callVi (w := yw G q) (wr := []) C0.1 (m_greatest l G q rk T hT hIT) (cwV 0 C0.1.2.2.2.2 gX1_clear_X1_greatest rfl rfl rfl (by decide +kernel) ⟨Nat.le_of_ble_eq_true rfl, Nat.le_of_ble_eq_true rfl⟩) (ci := 1) rfl rfl rfl (gs_nil hz) rfl hl.1 rfl (Nat.le_of_ble_eq_true rfl) dX1_clear_30 ⟨Nat.le_of_ble_eq_true rfl, Nat.le_of_ble_eq_true rfl⟩ (fun res u9 H locs hp9 hz => ?_)
        replace hz := gs_unnil hz
        rw [hp9.1] at hz
        refine gs_eq (y := nI (hs_gg T)) (hp9.2) ?_
        clear hp9
        refine lv_iload_n C0.1.1 C0.1.2.1 dX1_clear_33 rfl (lv_at hl 1 rfl) ?_
        refine lv_icmp_ge (tgt := 64) C0.1.1 C0.1.2.1 dX1_clear_34 (by decide) (fun c3 => ?_) (fun c3 => ?_)
        · rw [nI_leI (by omega) (by omega)] at c3
          rw [hs_cl_g (S := T) (d := d) (k := k) (by omega)] at key
          refine lv_iload_n C0.1.1 C0.1.2.1 dX1_clear_64 rfl (lv_at hl 2 rfl) ?_
          exact gs_reti rk C0 hz (py_of hsp hth (by rw [key]) (by rw [key]; exact hT)) (Nat.le_of_ble_eq_true rfl) (Nat.le_of_ble_eq_true rfl) dX1_clear_65
        · rw [nI_leI (by omega) (by omega)] at c3
          refine lv_aload_n C0.1.1 C0.1.2.1 dX1_clear_37 rfl (lv_at hl 0 rfl) ?_
          refine lv_iconst (v := (-1)) C0.1.1 C0.1.2.1 dX1_clear_38 (by decide) ?_
          rcases op_cases (hs_l1 T 48) with ⟨h, e1⟩ | e1
          · skip
            have hx := hs_l1_ok e1
            have hx2 := hIT.J.2 h hx.1
            have hol := hg_out_lt hx.1
            obtain ⟨d', rfl⟩ : ∃ d', d = d' + 1 := ⟨d - 1, by omega⟩
            refine gs_callVi (w := yw G q) (wr := []) C0.1 (m_firstToLose l G q rk T hT hIT 48 (-1) (Or.inr ⟨rfl, rfl⟩)) (cwV 1 C0.1.2.2.2.2 gX1_clear_X1_firstToLose rfl rfl rfl (by decide +kernel) ⟨Nat.le_of_ble_eq_true rfl, Nat.le_of_ble_eq_true rfl⟩) (ci := 1) rfl rfl rfl (gs_nil hz) rfl hl.1 rfl (Nat.le_of_ble_eq_true rfl) dX1_clear_39 ⟨Nat.le_of_ble_eq_true rfl, Nat.le_of_ble_eq_true rfl⟩ (fun res u9 H locs hp9 hz => ?_)
            replace hz := gs_unnil hz
            rw [hp9.1] at hz
            refine gs_eq (y := nI h) (by rw [hp9.2, e1]; rfl) ?_
            clear hp9
            refine lv_if_lt (tgt := 64) C0.1.1 C0.1.2.1 dX1_clear_42 (by decide) (fun c9 => absurd c9 (nI_pos (by omega))) (fun _ => ?_)
            refine lv_aload_n C0.1.1 C0.1.2.1 dX1_clear_45 rfl (lv_at hl 0 rfl) ?_
            refine lv_aload_n C0.1.1 C0.1.2.1 dX1_clear_46 rfl (lv_at hl 0 rfl) ?_
            refine lv_iconst (v := (-1)) C0.1.1 C0.1.2.1 dX1_clear_47 (by decide) ?_
            refine gs_callVi (w := yw G q) (wr := []) C0.1 (m_firstToLose l G q rk T hT hIT 48 (-1) (Or.inr ⟨rfl, rfl⟩)) (cwV 1 C0.1.2.2.2.2 gX1_clear_X1_firstToLose rfl rfl rfl (by decide +kernel) ⟨Nat.le_of_ble_eq_true rfl, Nat.le_of_ble_eq_true rfl⟩) (ci := 1) rfl rfl rfl (gs_nil hz) rfl hl.1 rfl (Nat.le_of_ble_eq_true rfl) dX1_clear_48 ⟨Nat.le_of_ble_eq_true rfl, Nat.le_of_ble_eq_true rfl⟩ (fun res u9 H locs hp9 hz => ?_)
            replace hz := gs_unnil hz
            rw [hp9.1] at hz
            refine gs_eq (y := nI h) (by rw [hp9.2, e1]; rfl) ?_
            clear hp9
            refine gs_callVv (w := yw G q) (wr := []) C0.1 (m_loseOne l G q rk T hT h hx2.1 hx2.2) (cwV 1 C0.1.2.2.2.2 gX1_clear_X1_loseOne rfl rfl rfl (by decide +kernel) ⟨Nat.le_of_ble_eq_true rfl, Nat.le_of_ble_eq_true rfl⟩) (ci := 1) rfl rfl rfl (gs_nil hz) rfl hl.1 rfl (Nat.le_of_ble_eq_true rfl) dX1_clear_51 ⟨Nat.le_of_ble_eq_true rfl, Nat.le_of_ble_eq_true rfl⟩ (fun u2 H locs hp hz => ?_)
            replace hz := gs_unnil hz
            obtain ⟨hp, hth2⟩ := hp
            refine lv_aload_n C0.1.1 C0.1.2.1 dX1_clear_54 rfl (lv_at hl 0 rfl) ?_
            refine gs_callVv (w := yw G q) (wr := []) C0.1 (m_slideAll l G q u2 (hs_gu T h) hp (hs_gu_I hIT)) (cwV 0 C0.1.2.2.2.2 gX1_clear_X1_slideAll rfl rfl rfl (by decide +kernel) ⟨Nat.le_of_ble_eq_true rfl, Nat.le_of_ble_eq_true rfl⟩) (ci := 1) rfl rfl rfl (gs_nil hz) rfl hl.1 rfl (Nat.le_of_ble_eq_true rfl) dX1_clear_55 ⟨Nat.le_of_ble_eq_true rfl, Nat.le_of_ble_eq_true rfl⟩ (fun u3 H locs hp hz => ?_)
            replace hz := gs_unnil hz
            obtain ⟨hp, hth3⟩ := hp
            refine lv_iinc (v := nI (k + 1)) (lv' := [(2, .int (nI (k + 1))), (0, .ref (q 0)), (1, .int (nI n))]) C0.1.1 C0.1.2.1 dX1_clear_58 hl (k := 2) rfl (nI_1 k) (by decide) rfl (fun ls hl => ?_)
            refine lv_goto (tgt := 22) C0.1.1 C0.1.2.1 dX1_clear_61 (by decide) ?_
            have hl : lv_has ls 3 [(0, .ref (q 0)), (1, .int (nI n)), (2, .int (nI (k + 1)))] := lv_sub hl [1, 2, 0] rfl
            exact ih d' (by omega) (k + 1) _ u3 ls _ _ hz (by show (hg_out (hs_R T) h).length ≤ d'; omega) hp (hth3.trans (hth2.trans hth)) (hs_sl_I (hs_gu_I hIT)) (by rw [key, hs_cl_s (S := T) (d := d') (k := k) (by omega) e1]) hl
          · skip
            rw [hs_cl_n (S := T) (d := d) (k := k) e1] at key
            refine gs_callVi (w := yw G q) (wr := []) C0.1 (m_firstToLose l G q rk T hT hIT 48 (-1) (Or.inr ⟨rfl, rfl⟩)) (cwV 1 C0.1.2.2.2.2 gX1_clear_X1_firstToLose rfl rfl rfl (by decide +kernel) ⟨Nat.le_of_ble_eq_true rfl, Nat.le_of_ble_eq_true rfl⟩) (ci := 1) rfl rfl rfl (gs_nil hz) rfl hl.1 rfl (Nat.le_of_ble_eq_true rfl) dX1_clear_39 ⟨Nat.le_of_ble_eq_true rfl, Nat.le_of_ble_eq_true rfl⟩ (fun res u9 H locs hp9 hz => ?_)
            replace hz := gs_unnil hz
            rw [hp9.1] at hz
            refine gs_eq (y := (-1)) (by rw [hp9.2, e1]; rfl) ?_
            clear hp9
            refine lv_if_lt (tgt := 64) C0.1.1 C0.1.2.1 dX1_clear_42 (by decide) (fun _ => ?_) (fun c9 => absurd (by decide) c9)
            refine lv_iload_n C0.1.1 C0.1.2.1 dX1_clear_64 rfl (lv_at hl 2 rfl) ?_
            exact gs_reti rk C0 hz (py_of hsp hth (by rw [key]) (by rw [key]; exact hT)) (Nat.le_of_ble_eq_true rfl) (Nat.le_of_ble_eq_true rfl) dX1_clear_65
    · rw [nI_leI (by omega) (by omega)] at c2
      refine lv_iconst (v := nI 1) C0.1.1 C0.1.2.1 dX1_clear_12 (by decide) ?_
      refine lv_goto (tgt := 17) C0.1.1 C0.1.2.1 dX1_clear_13 (by decide) ?_
      refine yp_th C0 hin hz l_th dX1_clear_17 (fun H locs hz => ?_)
      obtain ⟨r1, er1⟩ : ∃ z, z = ys_th r (nI 1) := ⟨_, rfl⟩
      rw [← er1] at hz
      refine lv_iconst (v := nI 0) C0.1.1 C0.1.2.1 dX1_clear_20 (by decide) ?_
      refine lv_istore_n (lv' := [(2, .int (nI 0)), (0, .ref (q 0)), (1, .int (nI n))]) C0.1.1 C0.1.2.1 dX1_clear_21 rfl hl (by decide) rfl (fun ls hl => ?_)
      refine lv_aload_n C0.1.1 C0.1.2.1 dX1_clear_22 rfl (lv_at hl 1 rfl) ?_
      refine yg_th C0 hin hz l_th dX1_clear_23 ?_
      refine gs_eq (y := nI 1) (by rw [er1]; rfl) ?_
      refine lv_if_ne (tgt := 64) C0.1.1 C0.1.2.1 dX1_clear_26 (by decide) (fun _ => ?_) (fun c9 => absurd c9 (by decide))
      refine lv_iload_n C0.1.1 C0.1.2.1 dX1_clear_64 rfl (lv_at hl 0 rfl) ?_
      exact gs_reti r1 C0 hz (py_x (sp_clear_x (fun ⟨k, _, h2, h3⟩ => by rw [nI_eq hn0 (by omega)] at h3; omega)) (by decide) (by rw [er1]; rfl) (by rw [er1]; exact hS)) (Nat.le_of_ble_eq_true rfl) (Nat.le_of_ble_eq_true rfl) dX1_clear_65
set_option maxHeartbeats 4000000 in
set_option maxRecDepth 100000 in
/-- put -/
theorem m_put (l : Launch) (G : gs_G) (q : Nat → Nat) (r : yr) (S : hs_S) (hS : ry S r) (hI : hs_I S) (x i v : Int32) : gm_i l yX1_put wsX1_put (gm_rm 8 0 0) G (yw G q) r [.ref (q 0), .int x, .int i, .int v] (fun res u => py (sp_put S x i v) res u) 0 0 := by
  refine gm_i.of (cc := cX1_put) (nL := 5) (ret := (some .int)) (by decide +kernel) rfl (Nat.le_of_ble_eq_true rfl) ?_
  intro p e s m args below meth c ls C0 hz hl
  have hin : ∀ w ∈ wsX10, w ∈ wsX1_put := by decide +kernel
  have l_sz : Cond.fieldLink RX1 17 "HandleHeapModel" "size" "[I" ∈ wsX1_put := by decide +kernel
  have l_th : Cond.fieldLink RX1 33 "HandleHeapModel" "thrown" "I" ∈ wsX1_put := by decide +kernel
  have l_by : Cond.fieldLink RX1 30 "HandleHeapModel" "bytes" "[I" ∈ wsX1_put := by decide +kernel
  have hl : lv_has ls 5 [(0, .ref (q 0)), (1, .int x), (2, .int i), (3, .int v)] := hl
  refine lv_aload_n C0.1.1 C0.1.2.1 dX1_put_0 rfl (lv_at hl 0 rfl) ?_
  refine lv_aload_n C0.1.1 C0.1.2.1 dX1_put_1 rfl (lv_at hl 0 rfl) ?_
  refine lv_iload_n C0.1.1 C0.1.2.1 dX1_put_2 rfl (lv_at hl 1 rfl) ?_
  refine gs_callVi (w := yw G q) (wr := []) C0.1 (m_notUsed l G q r S hS x) (cwV 1 C0.1.2.2.2.2 gX1_put_X1_notUsed rfl rfl rfl (by decide +kernel) ⟨Nat.le_of_ble_eq_true rfl, Nat.le_of_ble_eq_true rfl⟩) (ci := 1) rfl rfl rfl (gs_nil hz) rfl hl.1 rfl (Nat.le_of_ble_eq_true rfl) dX1_put_3 ⟨Nat.le_of_ble_eq_true rfl, Nat.le_of_ble_eq_true rfl⟩ (fun res u9 H locs hp9 hz => ?_)
  replace hz := gs_unnil hz
  obtain ⟨hpe, hp9⟩ := hp9
  rw [hpe] at hz
  rcases hp9 with ⟨hp9, h, hh, rfl, hu⟩ | ⟨hp9, hno⟩
  · skip
    refine gs_eq (y := nI 0) (hp9) ?_
    refine lv_if_ne (tgt := 20) C0.1.1 C0.1.2.1 dX1_put_6 (by decide) (fun c9 => absurd (by decide) c9) (fun _ => ?_)
    refine lv_iload_n C0.1.1 C0.1.2.1 dX1_put_9 rfl (lv_at hl 3 rfl) ?_
    refine lv_if_lt (tgt := 20) C0.1.1 C0.1.2.1 dX1_put_10 (by decide) (fun c1 => ?_) (fun c1 => ?_)
    · skip
      refine lv_iconst (v := nI 1) C0.1.1 C0.1.2.1 dX1_put_20 (by decide) ?_
      refine lv_goto (tgt := 56) C0.1.1 C0.1.2.1 dX1_put_21 (by decide) ?_
      refine yp_th C0 hin hz l_th dX1_put_56 (fun H locs hz => ?_)
      obtain ⟨r1, er1⟩ : ∃ z, z = ys_th r (nI 1) := ⟨_, rfl⟩
      rw [← er1] at hz
      refine lv_aload_n C0.1.1 C0.1.2.1 dX1_put_59 rfl (lv_at hl 0 rfl) ?_
      refine yg_th C0 hin hz l_th dX1_put_60 ?_
      refine gs_eq (y := nI 1) (by rw [er1]; rfl) ?_
      refine lv_if_le (tgt := 68) C0.1.1 C0.1.2.1 dX1_put_63 (by decide) (fun c9 => absurd c9 (by decide)) (fun _ => ?_)
      refine lv_iconst (v := nI 0) C0.1.1 C0.1.2.1 dX1_put_66 (by decide) ?_
      exact gs_reti r1 C0 hz (py_x (sp_put_x (fun ⟨k, _, h2, h3⟩ => by rw [h3] at c1; exact nI_pos (by omega) c1)) (by decide) (by rw [er1]; rfl) (by rw [er1]; exact hS)) (Nat.le_of_ble_eq_true rfl) (Nat.le_of_ble_eq_true rfl) dX1_put_67
    · skip
      obtain ⟨n, hn0, rfl⟩ := nI_of c1
      refine lv_iload_n C0.1.1 C0.1.2.1 dX1_put_13 rfl (lv_at hl 3 rfl) ?_
      refine lv_sipush (v := nI 255) C0.1.1 C0.1.2.1 dX1_put_14 (by decide) ?_
      refine lv_icmp_le (tgt := 24) C0.1.1 C0.1.2.1 dX1_put_17 (by decide) (fun c2 => ?_) (fun c2 => ?_)
      · rw [nI_leI (by omega) (by omega)] at c2
        have hsp := sp_put_h (S := S) (x := nI h) (i := i) c2
        have hn1 := hI.n1024 hh
        have hnu := hI.n0 hh
        have hu2 := hI.u2 hh
        refine lv_aload_n C0.1.1 C0.1.2.1 dX1_put_24 rfl (lv_at hl 0 rfl) ?_
        refine yg_sz C0 hin hz l_sz dX1_put_25 ?_
        refine lv_iload_n C0.1.1 C0.1.2.1 dX1_put_28 rfl (lv_at hl 1 rfl) ?_
        refine yl_sz C0 hz h (by omega) rfl dX1_put_29 ?_
        refine gs_eq (y := nI (hs_n S h)) (hS.2.1 h hh) ?_
        refine lv_if_ne (tgt := 37) C0.1.1 C0.1.2.1 dX1_put_30 (by decide) (fun c3 => ?_) (fun c3 => ?_)
        · rw [n0_eq (by omega)] at c3
          have huh : hs_u S h = 2 := hnu.mp (by omega)
          rw [sp_has_h hh huh] at hsp
          refine lv_iload_n C0.1.1 C0.1.2.1 dX1_put_37 rfl (lv_at hl 2 rfl) ?_
          refine lv_if_lt (tgt := 51) C0.1.1 C0.1.2.1 dX1_put_38 (by decide) (fun c4 => ?_) (fun c4 => ?_)
          · skip
            rw [if_neg (fun z => absurd c4 (Int32.not_lt.mpr z.1))] at hsp
            refine lv_iconst (v := nI 3) C0.1.1 C0.1.2.1 dX1_put_51 (by decide) ?_
            refine lv_goto (tgt := 56) C0.1.1 C0.1.2.1 dX1_put_52 (by decide) ?_
            refine yp_th C0 hin hz l_th dX1_put_56 (fun H locs hz => ?_)
            obtain ⟨r1, er1⟩ : ∃ z, z = ys_th r (nI 3) := ⟨_, rfl⟩
            rw [← er1] at hz
            refine lv_aload_n C0.1.1 C0.1.2.1 dX1_put_59 rfl (lv_at hl 0 rfl) ?_
            refine yg_th C0 hin hz l_th dX1_put_60 ?_
            refine gs_eq (y := nI 3) (by rw [er1]; rfl) ?_
            refine lv_if_le (tgt := 68) C0.1.1 C0.1.2.1 dX1_put_63 (by decide) (fun c9 => absurd c9 (by decide)) (fun _ => ?_)
            refine lv_iconst (v := nI 0) C0.1.1 C0.1.2.1 dX1_put_66 (by decide) ?_
            exact gs_reti r1 C0 hz (py_x (hsp) (by decide) (by rw [er1]; rfl) (by rw [er1]; exact hS)) (Nat.le_of_ble_eq_true rfl) (Nat.le_of_ble_eq_true rfl) dX1_put_67
          · skip
            obtain ⟨j, hj0, rfl⟩ := nI_of c4
            refine lv_iload_n C0.1.1 C0.1.2.1 dX1_put_41 rfl (lv_at hl 2 rfl) ?_
            refine lv_aload_n C0.1.1 C0.1.2.1 dX1_put_42 rfl (lv_at hl 0 rfl) ?_
            refine yg_sz C0 hin hz l_sz dX1_put_43 ?_
            refine lv_iload_n C0.1.1 C0.1.2.1 dX1_put_46 rfl (lv_at hl 1 rfl) ?_
            refine yl_sz C0 hz h (by omega) rfl dX1_put_47 ?_
            refine gs_eq (y := nI (hs_n S h)) (hS.2.1 h hh) ?_
            refine lv_icmp_lt (tgt := 55) C0.1.1 C0.1.2.1 dX1_put_48 (by decide) (fun c5 => ?_) (fun c5 => ?_)
            · rw [nI_ltI (by omega) (by omega)] at c5
              rw [if_pos ((ib_iff hn1).mpr ⟨j, c5, rfl⟩), nI_clamp (by omega)] at hsp
              refine lv_iconst (v := nI 0) C0.1.1 C0.1.2.1 dX1_put_55 (by decide) ?_
              refine yp_th C0 hin hz l_th dX1_put_56 (fun H locs hz => ?_)
              obtain ⟨r1, er1⟩ : ∃ z, z = ys_th r (nI 0) := ⟨_, rfl⟩
              rw [← er1] at hz
              refine lv_aload_n C0.1.1 C0.1.2.1 dX1_put_59 rfl (lv_at hl 0 rfl) ?_
              refine yg_th C0 hin hz l_th dX1_put_60 ?_
              refine gs_eq (y := nI 0) (by rw [er1]; rfl) ?_
              refine lv_if_le (tgt := 68) C0.1.1 C0.1.2.1 dX1_put_63 (by decide) (fun _ => ?_) (fun c9 => absurd (by decide) c9)
              have hS1 : ry S r1 := by rw [er1]; exact hS
              have th1 : y_th r1 = nI 0 := by rw [er1]; rfl
              refine lv_aload_n C0.1.1 C0.1.2.1 dX1_put_68 rfl (lv_at hl 0 rfl) ?_
              refine yg_by C0 hin hz l_by dX1_put_69 ?_
              refine lv_sipush (v := nI 1024) C0.1.1 C0.1.2.1 dX1_put_72 (by decide) ?_
              refine lv_iload_n C0.1.1 C0.1.2.1 dX1_put_75 rfl (lv_at hl 1 rfl) ?_
              refine lv_imul C0.1.1 C0.1.2.1 dX1_put_76 ?_
              refine gs_eq (pk_mul 1024 h) ?_
              refine lv_iload_n C0.1.1 C0.1.2.1 dX1_put_77 rfl (lv_at hl 2 rfl) ?_
              refine lv_iadd C0.1.1 C0.1.2.1 dX1_put_78 ?_
              refine gs_eq (nI_add (1024 * h) j) ?_
              refine yl_by C0 hz ((1024 * h) + j) (by omega) rfl dX1_put_79 ?_
              refine gs_eq (y := hs_y S h j) (hS1.2.2.2.1 h hh huh j c5) ?_
              refine lv_istore (lv' := [(4, .int (hs_y S h j)), (0, .ref (q 0)), (1, .int (nI h)), (2, .int (nI j)), (3, .int (nI n))]) C0.1.1 C0.1.2.1 dX1_put_80 hl (by decide) rfl (fun ls hl => ?_)
              refine lv_aload_n C0.1.1 C0.1.2.1 dX1_put_82 rfl (lv_at hl 1 rfl) ?_
              refine yg_by C0 hin hz l_by dX1_put_83 ?_
              refine lv_sipush (v := nI 1024) C0.1.1 C0.1.2.1 dX1_put_86 (by decide) ?_
              refine lv_iload_n C0.1.1 C0.1.2.1 dX1_put_89 rfl (lv_at hl 2 rfl) ?_
              refine lv_imul C0.1.1 C0.1.2.1 dX1_put_90 ?_
              refine gs_eq (pk_mul 1024 h) ?_
              refine lv_iload_n C0.1.1 C0.1.2.1 dX1_put_91 rfl (lv_at hl 3 rfl) ?_
              refine lv_iadd C0.1.1 C0.1.2.1 dX1_put_92 ?_
              refine gs_eq (nI_add (1024 * h) j) ?_
              refine lv_iload_n C0.1.1 C0.1.2.1 dX1_put_93 rfl (lv_at hl 4 rfl) ?_
              refine yt_by C0 hz ((1024 * h) + j) (by omega) rfl dX1_put_94 (fun H locs hz => ?_)
              refine lv_iload C0.1.1 C0.1.2.1 dX1_put_95 (lv_at hl 0 rfl) ?_
              exact gs_reti (ys_by r1 (upd (y_by r1) ((1024 * h) + j) (nI n))) C0 hz (py_of hsp th1 rfl (ry_put hS1 hI hh c5)) (Nat.le_of_ble_eq_true rfl) (Nat.le_of_ble_eq_true rfl) dX1_put_97
            · rw [nI_ltI (by omega) (by omega)] at c5
              rw [if_neg (fun z => by obtain ⟨k, g1, g2⟩ := (ib_iff hn1).mp z; rw [nI_eq hj0 (by omega)] at g2; omega)] at hsp
              refine lv_iconst (v := nI 3) C0.1.1 C0.1.2.1 dX1_put_51 (by decide) ?_
              refine lv_goto (tgt := 56) C0.1.1 C0.1.2.1 dX1_put_52 (by decide) ?_
              refine yp_th C0 hin hz l_th dX1_put_56 (fun H locs hz => ?_)
              obtain ⟨r1, er1⟩ : ∃ z, z = ys_th r (nI 3) := ⟨_, rfl⟩
              rw [← er1] at hz
              refine lv_aload_n C0.1.1 C0.1.2.1 dX1_put_59 rfl (lv_at hl 0 rfl) ?_
              refine yg_th C0 hin hz l_th dX1_put_60 ?_
              refine gs_eq (y := nI 3) (by rw [er1]; rfl) ?_
              refine lv_if_le (tgt := 68) C0.1.1 C0.1.2.1 dX1_put_63 (by decide) (fun c9 => absurd c9 (by decide)) (fun _ => ?_)
              refine lv_iconst (v := nI 0) C0.1.1 C0.1.2.1 dX1_put_66 (by decide) ?_
              exact gs_reti r1 C0 hz (py_x (hsp) (by decide) (by rw [er1]; rfl) (by rw [er1]; exact hS)) (Nat.le_of_ble_eq_true rfl) (Nat.le_of_ble_eq_true rfl) dX1_put_67
        · rw [n0_eq (by omega)] at c3
          rw [sp_has_e hh (by omega)] at hsp
          refine lv_iconst (v := nI 2) C0.1.1 C0.1.2.1 dX1_put_33 (by decide) ?_
          refine lv_goto (tgt := 56) C0.1.1 C0.1.2.1 dX1_put_34 (by decide) ?_
          refine yp_th C0 hin hz l_th dX1_put_56 (fun H locs hz => ?_)
          obtain ⟨r1, er1⟩ : ∃ z, z = ys_th r (nI 2) := ⟨_, rfl⟩
          rw [← er1] at hz
          refine lv_aload_n C0.1.1 C0.1.2.1 dX1_put_59 rfl (lv_at hl 0 rfl) ?_
          refine yg_th C0 hin hz l_th dX1_put_60 ?_
          refine gs_eq (y := nI 2) (by rw [er1]; rfl) ?_
          refine lv_if_le (tgt := 68) C0.1.1 C0.1.2.1 dX1_put_63 (by decide) (fun c9 => absurd c9 (by decide)) (fun _ => ?_)
          refine lv_iconst (v := nI 0) C0.1.1 C0.1.2.1 dX1_put_66 (by decide) ?_
          exact gs_reti r1 C0 hz (py_x (hsp) (by decide) (by rw [er1]; rfl) (by rw [er1]; exact hS)) (Nat.le_of_ble_eq_true rfl) (Nat.le_of_ble_eq_true rfl) dX1_put_67
      · rw [nI_leI (by omega) (by omega)] at c2
        refine lv_iconst (v := nI 1) C0.1.1 C0.1.2.1 dX1_put_20 (by decide) ?_
        refine lv_goto (tgt := 56) C0.1.1 C0.1.2.1 dX1_put_21 (by decide) ?_
        refine yp_th C0 hin hz l_th dX1_put_56 (fun H locs hz => ?_)
        obtain ⟨r1, er1⟩ : ∃ z, z = ys_th r (nI 1) := ⟨_, rfl⟩
        rw [← er1] at hz
        refine lv_aload_n C0.1.1 C0.1.2.1 dX1_put_59 rfl (lv_at hl 0 rfl) ?_
        refine yg_th C0 hin hz l_th dX1_put_60 ?_
        refine gs_eq (y := nI 1) (by rw [er1]; rfl) ?_
        refine lv_if_le (tgt := 68) C0.1.1 C0.1.2.1 dX1_put_63 (by decide) (fun c9 => absurd c9 (by decide)) (fun _ => ?_)
        refine lv_iconst (v := nI 0) C0.1.1 C0.1.2.1 dX1_put_66 (by decide) ?_
        exact gs_reti r1 C0 hz (py_x (sp_put_x (fun ⟨k, _, h2, h3⟩ => by rw [nI_eq hn0 (by omega)] at h3; omega)) (by decide) (by rw [er1]; rfl) (by rw [er1]; exact hS)) (Nat.le_of_ble_eq_true rfl) (Nat.le_of_ble_eq_true rfl) dX1_put_67
  · skip
    refine gs_eq (y := nI 1) (hp9) ?_
    refine lv_if_ne (tgt := 20) C0.1.1 C0.1.2.1 dX1_put_6 (by decide) (fun _ => ?_) (fun c9 => absurd c9 (by decide))
    have hsp : sp_put S x i v = (1, 0, S) := by
      rcases nd_cases 0 255 v (by decide) (by decide) with ⟨k, -, g2, g3, -⟩ | ⟨-, g⟩
      · rw [g3, sp_put_h g2]; exact sp_has_no hno
      · exact sp_put_x g
    refine lv_iconst (v := nI 1) C0.1.1 C0.1.2.1 dX1_put_20 (by decide) ?_
    refine lv_goto (tgt := 56) C0.1.1 C0.1.2.1 dX1_put_21 (by decide) ?_
    refine yp_th C0 hin hz l_th dX1_put_56 (fun H locs hz => ?_)
    obtain ⟨r1, er1⟩ : ∃ z, z = ys_th r (nI 1) := ⟨_, rfl⟩
    rw [← er1] at hz
    refine lv_aload_n C0.1.1 C0.1.2.1 dX1_put_59 rfl (lv_at hl 0 rfl) ?_
    refine yg_th C0 hin hz l_th dX1_put_60 ?_
    refine gs_eq (y := nI 1) (by rw [er1]; rfl) ?_
    refine lv_if_le (tgt := 68) C0.1.1 C0.1.2.1 dX1_put_63 (by decide) (fun c9 => absurd c9 (by decide)) (fun _ => ?_)
    refine lv_iconst (v := nI 0) C0.1.1 C0.1.2.1 dX1_put_66 (by decide) ?_
    exact gs_reti r1 C0 hz (py_x (hsp) (by decide) (by rw [er1]; rfl) (by rw [er1]; exact hS)) (Nat.le_of_ble_eq_true rfl) (Nat.le_of_ble_eq_true rfl) dX1_put_67
set_option maxHeartbeats 4000000 in
set_option maxRecDepth 100000 in
/-- get -/
theorem m_get (l : Launch) (G : gs_G) (q : Nat → Nat) (r : yr) (S : hs_S) (hS : ry S r) (hI : hs_I S) (x i : Int32) : gm_i l yX1_get wsX1_get (gm_rm 8 0 0) G (yw G q) r [.ref (q 0), .int x, .int i] (fun res u => py (sp_get S x i) res u) 0 0 := by
  refine gm_i.of (cc := cX1_get) (nL := 3) (ret := (some .int)) (by decide +kernel) rfl (Nat.le_of_ble_eq_true rfl) ?_
  intro p e s m args below meth c ls C0 hz hl
  have hin : ∀ w ∈ wsX10, w ∈ wsX1_get := by decide +kernel
  have l_sz : Cond.fieldLink RX1 17 "HandleHeapModel" "size" "[I" ∈ wsX1_get := by decide +kernel
  have l_th : Cond.fieldLink RX1 33 "HandleHeapModel" "thrown" "I" ∈ wsX1_get := by decide +kernel
  have l_by : Cond.fieldLink RX1 30 "HandleHeapModel" "bytes" "[I" ∈ wsX1_get := by decide +kernel
  have hl : lv_has ls 3 [(0, .ref (q 0)), (1, .int x), (2, .int i)] := hl
  refine lv_aload_n C0.1.1 C0.1.2.1 dX1_get_0 rfl (lv_at hl 0 rfl) ?_
  refine lv_aload_n C0.1.1 C0.1.2.1 dX1_get_1 rfl (lv_at hl 0 rfl) ?_
  refine lv_iload_n C0.1.1 C0.1.2.1 dX1_get_2 rfl (lv_at hl 1 rfl) ?_
  refine gs_callVi (w := yw G q) (wr := []) C0.1 (m_notUsed l G q r S hS x) (cwV 1 C0.1.2.2.2.2 gX1_get_X1_notUsed rfl rfl rfl (by decide +kernel) ⟨Nat.le_of_ble_eq_true rfl, Nat.le_of_ble_eq_true rfl⟩) (ci := 1) rfl rfl rfl (gs_nil hz) rfl hl.1 rfl (Nat.le_of_ble_eq_true rfl) dX1_get_3 ⟨Nat.le_of_ble_eq_true rfl, Nat.le_of_ble_eq_true rfl⟩ (fun res u9 H locs hp9 hz => ?_)
  replace hz := gs_unnil hz
  obtain ⟨hpe, hp9⟩ := hp9
  rw [hpe] at hz
  rcases hp9 with ⟨hp9, h, hh, rfl, hu⟩ | ⟨hp9, hno⟩
  · skip
    refine gs_eq (y := nI 0) (hp9) ?_
    refine lv_if_eq (tgt := 13) C0.1.1 C0.1.2.1 dX1_get_6 (by decide) (fun _ => ?_) (fun c9 => absurd (by decide) c9)
    have hn1 := hI.n1024 hh
    have hnu := hI.n0 hh
    have hu2 := hI.u2 hh
    refine lv_aload_n C0.1.1 C0.1.2.1 dX1_get_13 rfl (lv_at hl 0 rfl) ?_
    refine yg_sz C0 hin hz l_sz dX1_get_14 ?_
    refine lv_iload_n C0.1.1 C0.1.2.1 dX1_get_17 rfl (lv_at hl 1 rfl) ?_
    refine yl_sz C0 hz h (by omega) rfl dX1_get_18 ?_
    refine gs_eq (y := nI (hs_n S h)) (hS.2.1 h hh) ?_
    refine lv_if_ne (tgt := 26) C0.1.1 C0.1.2.1 dX1_get_19 (by decide) (fun c3 => ?_) (fun c3 => ?_)
    · rw [n0_eq (by omega)] at c3
      have huh : hs_u S h = 2 := hnu.mp (by omega)
      have hsp : sp_get S (nI h) i = if 0 ≤ i ∧ i < nI (hs_n S h) then (0, hs_y S h i.toNatClampNeg, S) else (3, 0, S) := sp_has_h hh huh
      refine lv_iload_n C0.1.1 C0.1.2.1 dX1_get_26 rfl (lv_at hl 2 rfl) ?_
      refine lv_if_lt (tgt := 40) C0.1.1 C0.1.2.1 dX1_get_27 (by decide) (fun c4 => ?_) (fun c4 => ?_)
      · skip
        rw [if_neg (fun z => absurd c4 (Int32.not_lt.mpr z.1))] at hsp
        refine lv_iconst (v := nI 3) C0.1.1 C0.1.2.1 dX1_get_40 (by decide) ?_
        refine lv_goto (tgt := 45) C0.1.1 C0.1.2.1 dX1_get_41 (by decide) ?_
        refine yp_th C0 hin hz l_th dX1_get_45 (fun H locs hz => ?_)
        obtain ⟨r1, er1⟩ : ∃ z, z = ys_th r (nI 3) := ⟨_, rfl⟩
        rw [← er1] at hz
        refine lv_aload_n C0.1.1 C0.1.2.1 dX1_get_48 rfl (lv_at hl 0 rfl) ?_
        refine yg_th C0 hin hz l_th dX1_get_49 ?_
        refine gs_eq (y := nI 3) (by rw [er1]; rfl) ?_
        refine lv_if_le (tgt := 59) C0.1.1 C0.1.2.1 dX1_get_52 (by decide) (fun c9 => absurd c9 (by decide)) (fun _ => ?_)
        refine lv_iconst (v := nI 0) C0.1.1 C0.1.2.1 dX1_get_55 (by decide) ?_
        refine lv_goto (tgt := 71) C0.1.1 C0.1.2.1 dX1_get_56 (by decide) ?_
        exact gs_reti r1 C0 hz (py_x (hsp) (by decide) (by rw [er1]; rfl) (by rw [er1]; exact hS)) (Nat.le_of_ble_eq_true rfl) (Nat.le_of_ble_eq_true rfl) dX1_get_71
      · skip
        obtain ⟨j, hj0, rfl⟩ := nI_of c4
        refine lv_iload_n C0.1.1 C0.1.2.1 dX1_get_30 rfl (lv_at hl 2 rfl) ?_
        refine lv_aload_n C0.1.1 C0.1.2.1 dX1_get_31 rfl (lv_at hl 0 rfl) ?_
        refine yg_sz C0 hin hz l_sz dX1_get_32 ?_
        refine lv_iload_n C0.1.1 C0.1.2.1 dX1_get_35 rfl (lv_at hl 1 rfl) ?_
        refine yl_sz C0 hz h (by omega) rfl dX1_get_36 ?_
        refine gs_eq (y := nI (hs_n S h)) (hS.2.1 h hh) ?_
        refine lv_icmp_lt (tgt := 44) C0.1.1 C0.1.2.1 dX1_get_37 (by decide) (fun c5 => ?_) (fun c5 => ?_)
        · rw [nI_ltI (by omega) (by omega)] at c5
          rw [if_pos ((ib_iff hn1).mpr ⟨j, c5, rfl⟩), nI_clamp (by omega)] at hsp
          refine lv_iconst (v := nI 0) C0.1.1 C0.1.2.1 dX1_get_44 (by decide) ?_
          refine yp_th C0 hin hz l_th dX1_get_45 (fun H locs hz => ?_)
          obtain ⟨r1, er1⟩ : ∃ z, z = ys_th r (nI 0) := ⟨_, rfl⟩
          rw [← er1] at hz
          refine lv_aload_n C0.1.1 C0.1.2.1 dX1_get_48 rfl (lv_at hl 0 rfl) ?_
          refine yg_th C0 hin hz l_th dX1_get_49 ?_
          refine gs_eq (y := nI 0) (by rw [er1]; rfl) ?_
          refine lv_if_le (tgt := 59) C0.1.1 C0.1.2.1 dX1_get_52 (by decide) (fun _ => ?_) (fun c9 => absurd (by decide) c9)
          have hS1 : ry S r1 := by rw [er1]; exact hS
          have th1 : y_th r1 = nI 0 := by rw [er1]; rfl
          refine lv_aload_n C0.1.1 C0.1.2.1 dX1_get_59 rfl (lv_at hl 0 rfl) ?_
          refine yg_by C0 hin hz l_by dX1_get_60 ?_
          refine lv_sipush (v := nI 1024) C0.1.1 C0.1.2.1 dX1_get_63 (by decide) ?_
          refine lv_iload_n C0.1.1 C0.1.2.1 dX1_get_66 rfl (lv_at hl 1 rfl) ?_
          refine lv_imul C0.1.1 C0.1.2.1 dX1_get_67 ?_
          refine gs_eq (pk_mul 1024 h) ?_
          refine lv_iload_n C0.1.1 C0.1.2.1 dX1_get_68 rfl (lv_at hl 2 rfl) ?_
          refine lv_iadd C0.1.1 C0.1.2.1 dX1_get_69 ?_
          refine gs_eq (nI_add (1024 * h) j) ?_
          refine yl_by C0 hz ((1024 * h) + j) (by omega) rfl dX1_get_70 ?_
          refine gs_eq (y := hs_y S h j) (hS1.2.2.2.1 h hh huh j c5) ?_
          exact gs_reti r1 C0 hz (py_of hsp th1 rfl hS1) (Nat.le_of_ble_eq_true rfl) (Nat.le_of_ble_eq_true rfl) dX1_get_71
        · rw [nI_ltI (by omega) (by omega)] at c5
          rw [if_neg (fun z => by obtain ⟨k, g1, g2⟩ := (ib_iff hn1).mp z; rw [nI_eq hj0 (by omega)] at g2; omega)] at hsp
          refine lv_iconst (v := nI 3) C0.1.1 C0.1.2.1 dX1_get_40 (by decide) ?_
          refine lv_goto (tgt := 45) C0.1.1 C0.1.2.1 dX1_get_41 (by decide) ?_
          refine yp_th C0 hin hz l_th dX1_get_45 (fun H locs hz => ?_)
          obtain ⟨r1, er1⟩ : ∃ z, z = ys_th r (nI 3) := ⟨_, rfl⟩
          rw [← er1] at hz
          refine lv_aload_n C0.1.1 C0.1.2.1 dX1_get_48 rfl (lv_at hl 0 rfl) ?_
          refine yg_th C0 hin hz l_th dX1_get_49 ?_
          refine gs_eq (y := nI 3) (by rw [er1]; rfl) ?_
          refine lv_if_le (tgt := 59) C0.1.1 C0.1.2.1 dX1_get_52 (by decide) (fun c9 => absurd c9 (by decide)) (fun _ => ?_)
          refine lv_iconst (v := nI 0) C0.1.1 C0.1.2.1 dX1_get_55 (by decide) ?_
          refine lv_goto (tgt := 71) C0.1.1 C0.1.2.1 dX1_get_56 (by decide) ?_
          exact gs_reti r1 C0 hz (py_x (hsp) (by decide) (by rw [er1]; rfl) (by rw [er1]; exact hS)) (Nat.le_of_ble_eq_true rfl) (Nat.le_of_ble_eq_true rfl) dX1_get_71
    · rw [n0_eq (by omega)] at c3
      refine lv_iconst (v := nI 2) C0.1.1 C0.1.2.1 dX1_get_22 (by decide) ?_
      refine lv_goto (tgt := 45) C0.1.1 C0.1.2.1 dX1_get_23 (by decide) ?_
      refine yp_th C0 hin hz l_th dX1_get_45 (fun H locs hz => ?_)
      obtain ⟨r1, er1⟩ : ∃ z, z = ys_th r (nI 2) := ⟨_, rfl⟩
      rw [← er1] at hz
      refine lv_aload_n C0.1.1 C0.1.2.1 dX1_get_48 rfl (lv_at hl 0 rfl) ?_
      refine yg_th C0 hin hz l_th dX1_get_49 ?_
      refine gs_eq (y := nI 2) (by rw [er1]; rfl) ?_
      refine lv_if_le (tgt := 59) C0.1.1 C0.1.2.1 dX1_get_52 (by decide) (fun c9 => absurd c9 (by decide)) (fun _ => ?_)
      refine lv_iconst (v := nI 0) C0.1.1 C0.1.2.1 dX1_get_55 (by decide) ?_
      refine lv_goto (tgt := 71) C0.1.1 C0.1.2.1 dX1_get_56 (by decide) ?_
      exact gs_reti r1 C0 hz (py_x (sp_has_e hh (by omega)) (by decide) (by rw [er1]; rfl) (by rw [er1]; exact hS)) (Nat.le_of_ble_eq_true rfl) (Nat.le_of_ble_eq_true rfl) dX1_get_71
  · skip
    refine gs_eq (y := nI 1) (hp9) ?_
    refine lv_if_eq (tgt := 13) C0.1.1 C0.1.2.1 dX1_get_6 (by decide) (fun c9 => absurd c9 (by decide)) (fun _ => ?_)
    refine lv_iconst (v := nI 1) C0.1.1 C0.1.2.1 dX1_get_9 (by decide) ?_
    refine lv_goto (tgt := 45) C0.1.1 C0.1.2.1 dX1_get_10 (by decide) ?_
    refine yp_th C0 hin hz l_th dX1_get_45 (fun H locs hz => ?_)
    obtain ⟨r1, er1⟩ : ∃ z, z = ys_th r (nI 1) := ⟨_, rfl⟩
    rw [← er1] at hz
    refine lv_aload_n C0.1.1 C0.1.2.1 dX1_get_48 rfl (lv_at hl 0 rfl) ?_
    refine yg_th C0 hin hz l_th dX1_get_49 ?_
    refine gs_eq (y := nI 1) (by rw [er1]; rfl) ?_
    refine lv_if_le (tgt := 59) C0.1.1 C0.1.2.1 dX1_get_52 (by decide) (fun c9 => absurd c9 (by decide)) (fun _ => ?_)
    refine lv_iconst (v := nI 0) C0.1.1 C0.1.2.1 dX1_get_55 (by decide) ?_
    refine lv_goto (tgt := 71) C0.1.1 C0.1.2.1 dX1_get_56 (by decide) ?_
    exact gs_reti r1 C0 hz (py_x (sp_has_no hno) (by decide) (by rw [er1]; rfl) (by rw [er1]; exact hS)) (Nat.le_of_ble_eq_true rfl) (Nat.le_of_ble_eq_true rfl) dX1_get_71
set_option maxHeartbeats 4000000 in
set_option maxRecDepth 100000 in
/-- owner -/
theorem m_owner (l : Launch) (G : gs_G) (q : Nat → Nat) (r : yr) (S : hs_S) (hS : ry S r) (hI : hs_I S) (x : Int32) : gm_i l yX1_owner wsX1_owner (gm_rm 8 0 0) G (yw G q) r [.ref (q 0), .int x] (fun res u => py (sp_owner S x) res u) 0 0 := by
  refine gm_i.of (cc := cX1_owner) (nL := 3) (ret := (some .int)) (by decide +kernel) rfl (Nat.le_of_ble_eq_true rfl) ?_
  intro p e s m args below meth c ls C0 hz hl
  have hin : ∀ w ∈ wsX10, w ∈ wsX1_owner := by decide +kernel
  have l_th : Cond.fieldLink RX1 33 "HandleHeapModel" "thrown" "I" ∈ wsX1_owner := by decide +kernel
  have l_bg : Cond.fieldLink RX1 13 "HandleHeapModel" "begin" "[I" ∈ wsX1_owner := by decide +kernel
  have l_sz : Cond.fieldLink RX1 17 "HandleHeapModel" "size" "[I" ∈ wsX1_owner := by decide +kernel
  have hl : lv_has ls 3 [(0, .ref (q 0)), (1, .int x)] := hl
  refine lv_aload_n C0.1.1 C0.1.2.1 dX1_owner_0 rfl (lv_at hl 0 rfl) ?_
  refine lv_iload_n C0.1.1 C0.1.2.1 dX1_owner_1 rfl (lv_at hl 1 rfl) ?_
  refine lv_if_lt (tgt := 12) C0.1.1 C0.1.2.1 dX1_owner_2 (by decide) (fun c1 => ?_) (fun c1 => ?_)
  · skip
    refine lv_iconst (v := nI 1) C0.1.1 C0.1.2.1 dX1_owner_12 (by decide) ?_
    refine lv_goto (tgt := 17) C0.1.1 C0.1.2.1 dX1_owner_13 (by decide) ?_
    refine yp_th C0 hin hz l_th dX1_owner_17 (fun H locs hz => ?_)
    obtain ⟨r1, er1⟩ : ∃ z, z = ys_th r (nI 1) := ⟨_, rfl⟩
    rw [← er1] at hz
    refine lv_iconst (v := nI 0) C0.1.1 C0.1.2.1 dX1_owner_20 (by decide) ?_
    refine lv_istore_n (lv' := [(2, .int (nI 0)), (0, .ref (q 0)), (1, .int x)]) C0.1.1 C0.1.2.1 dX1_owner_21 rfl hl (by decide) rfl (fun ls hl => ?_)
    refine lv_iload_n C0.1.1 C0.1.2.1 dX1_owner_22 rfl (lv_at hl 0 rfl) ?_
    refine lv_bipush (v := nI 48) C0.1.1 C0.1.2.1 dX1_owner_23 (by decide) ?_
    refine lv_icmp_ge (tgt := 78) C0.1.1 C0.1.2.1 dX1_owner_25 (by decide) (fun c9 => absurd c9 (by decide)) (fun _ => ?_)
    refine lv_aload_n C0.1.1 C0.1.2.1 dX1_owner_28 rfl (lv_at hl 1 rfl) ?_
    refine yg_th C0 hin hz l_th dX1_owner_29 ?_
    refine gs_eq (y := nI 1) (by rw [er1]; rfl) ?_
    refine lv_if_ne (tgt := 78) C0.1.1 C0.1.2.1 dX1_owner_32 (by decide) (fun _ => ?_) (fun c9 => absurd c9 (by decide))
    refine lv_aload_n C0.1.1 C0.1.2.1 dX1_owner_78 rfl (lv_at hl 1 rfl) ?_
    refine yg_th C0 hin hz l_th dX1_owner_79 ?_
    refine gs_eq (y := nI 1) (by rw [er1]; rfl) ?_
    refine lv_if_le (tgt := 89) C0.1.1 C0.1.2.1 dX1_owner_82 (by decide) (fun c9 => absurd c9 (by decide)) (fun _ => ?_)
    refine lv_iconst (v := nI 0) C0.1.1 C0.1.2.1 dX1_owner_85 (by decide) ?_
    refine lv_goto (tgt := 90) C0.1.1 C0.1.2.1 dX1_owner_86 (by decide) ?_
    exact gs_reti r1 C0 hz (py_x (sp_owner_x (fun ⟨k, h2, h3⟩ => by rw [h3] at c1; exact nI_pos (by omega) c1)) (by decide) (by rw [er1]; rfl) (by rw [er1]; exact hS)) (Nat.le_of_ble_eq_true rfl) (Nat.le_of_ble_eq_true rfl) dX1_owner_90
  · skip
    obtain ⟨a, ha0, rfl⟩ := nI_of c1
    refine lv_iload_n C0.1.1 C0.1.2.1 dX1_owner_5 rfl (lv_at hl 1 rfl) ?_
    refine lv_sipush (v := nI 1024) C0.1.1 C0.1.2.1 dX1_owner_6 (by decide) ?_
    refine lv_icmp_lt (tgt := 16) C0.1.1 C0.1.2.1 dX1_owner_9 (by decide) (fun c2 => ?_) (fun c2 => ?_)
    · rw [nI_ltI (by omega) (by omega)] at c2
      have hsp := sp_owner_h (S := S) c2
      refine lv_iconst (v := nI 0) C0.1.1 C0.1.2.1 dX1_owner_16 (by decide) ?_
      refine yp_th C0 hin hz l_th dX1_owner_17 (fun H locs hz => ?_)
      obtain ⟨r1, er1⟩ : ∃ z, z = ys_th r (nI 0) := ⟨_, rfl⟩
      rw [← er1] at hz
      refine lv_iconst (v := nI 0) C0.1.1 C0.1.2.1 dX1_owner_20 (by decide) ?_
      refine lv_istore_n (lv' := [(2, .int (nI 0)), (0, .ref (q 0)), (1, .int (nI a))]) C0.1.1 C0.1.2.1 dX1_owner_21 rfl hl (by decide) rfl (fun ls hl => ?_)
      have hS1 : ry S r1 := by rw [er1]; exact hS
      have th1 : y_th r1 = nI 0 := by rw [er1]; rfl
      have hl : lv_has ls 3 [(0, .ref (q 0)), (1, .int (nI a)), (2, .int (nI 0))] := lv_sub hl [1, 2, 0] rfl
      refine (?loop : ∀ (d k : Nat) (ls : Array Slot) (H : Heap) (locs : List Loc), gs_Z G (yw G q r1) _ s H locs → k + d = 48 → (∀ g, g < k → hs_u S g = 2 → ¬ (hs_b S g ≤ a ∧ a < hs_b S g + hs_n S g)) → lv_has ls 3 [(0, .ref (q 0)), (1, .int (nI a)), (2, .int (nI k))] → W p l e _ s m args below meth c H locs 0 0 _ (F0 m 22 ls [])) 48 0 ls _ _ hz (Nat.zero_add _) (fun g hg => absurd hg (Nat.not_lt_zero _)) hl
      intro d
      induction d using Nat.strongRecOn with
      | _ d ih =>
        intro k ls H locs hz hd hno hl
        refine lv_iload_n C0.1.1 C0.1.2.1 dX1_owner_22 rfl (lv_at hl 2 rfl) ?_
        refine lv_bipush (v := nI 48) C0.1.1 C0.1.2.1 dX1_owner_23 (by decide) ?_
        refine lv_icmp_ge (tgt := 78) C0.1.1 C0.1.2.1 dX1_owner_25 (by decide) (fun c3 => ?_) (fun c3 => ?_)
        · rw [nI_leI (by omega) (by omega)] at c3
          obtain rfl : k = 48 := by omega
          refine lv_aload_n C0.1.1 C0.1.2.1 dX1_owner_78 rfl (lv_at hl 0 rfl) ?_
          refine yg_th C0 hin hz l_th dX1_owner_79 ?_
          refine gs_eq (y := nI 0) (th1) ?_
          refine lv_if_le (tgt := 89) C0.1.1 C0.1.2.1 dX1_owner_82 (by decide) (fun _ => ?_) (fun c9 => absurd (by decide) c9)
          refine lv_iconst (v := (-1)) C0.1.1 C0.1.2.1 dX1_owner_89 (by decide) ?_
          exact gs_reti r1 C0 hz (py_of hsp th1 (by rw [hs_ow_n hI hno _ _ (Nat.zero_add _)]; rfl) hS1) (Nat.le_of_ble_eq_true rfl) (Nat.le_of_ble_eq_true rfl) dX1_owner_90
        · rw [nI_leI (by omega) (by omega)] at c3
          refine lv_aload_n C0.1.1 C0.1.2.1 dX1_owner_28 rfl (lv_at hl 0 rfl) ?_
          refine yg_th C0 hin hz l_th dX1_owner_29 ?_
          refine gs_eq (y := nI 0) (th1) ?_
          refine lv_if_ne (tgt := 78) C0.1.1 C0.1.2.1 dX1_owner_32 (by decide) (fun c9 => absurd (by decide) c9) (fun _ => ?_)
          refine lv_aload_n C0.1.1 C0.1.2.1 dX1_owner_35 rfl (lv_at hl 0 rfl) ?_
          refine lv_iload_n C0.1.1 C0.1.2.1 dX1_owner_36 rfl (lv_at hl 2 rfl) ?_
          refine gs_callVi (w := yw G q) (wr := []) C0.1 (m_has l G q r1 S hS1 hI k (by omega)) (cwV 1 C0.1.2.2.2.2 gX1_owner_X1_has rfl rfl rfl (by decide +kernel) ⟨Nat.le_of_ble_eq_true rfl, Nat.le_of_ble_eq_true rfl⟩) (ci := 1) rfl rfl rfl (gs_nil hz) rfl hl.1 rfl (Nat.le_of_ble_eq_true rfl) dX1_owner_37 ⟨Nat.le_of_ble_eq_true rfl, Nat.le_of_ble_eq_true rfl⟩ (fun res u9 H locs hp9 hz => ?_)
          replace hz := gs_unnil hz
          rw [hp9.1] at hz
          refine gs_eq (y := bI (decide (hs_u S k = 2))) (hp9.2) ?_
          clear hp9
          refine lv_if_eq (tgt := 72) C0.1.1 C0.1.2.1 dX1_owner_40 (by decide) (fun c4 => ?_) (fun c4 => ?_)
          · skip
            rw [bI_d0] at c4
            refine lv_iinc (v := nI (k + 1)) (lv' := [(2, .int (nI (k + 1))), (0, .ref (q 0)), (1, .int (nI a))]) C0.1.1 C0.1.2.1 dX1_owner_72 hl (k := 2) rfl (nI_1 k) (by decide) rfl (fun ls hl => ?_)
            refine lv_goto (tgt := 22) C0.1.1 C0.1.2.1 dX1_owner_75 (by decide) ?_
            have hl : lv_has ls 3 [(0, .ref (q 0)), (1, .int (nI a)), (2, .int (nI (k + 1)))] := lv_sub hl [1, 2, 0] rfl
            exact ih (d - 1) (by omega) (k + 1) ls _ _ hz (by omega) (fun g hg hgu => by
              by_cases z : g = k
              · subst z; exact absurd hgu c4
              · exact hno g (by omega) hgu) hl
          · skip
            rw [bI_dn] at c4
            have hbn := hI.bn (h := k) (by omega) c4
            have h3 := hS1.2.2.1 k (by omega) c4
            refine lv_iload_n C0.1.1 C0.1.2.1 dX1_owner_43 rfl (lv_at hl 1 rfl) ?_
            refine lv_aload_n C0.1.1 C0.1.2.1 dX1_owner_44 rfl (lv_at hl 0 rfl) ?_
            refine yg_bg C0 hin hz l_bg dX1_owner_45 ?_
            refine lv_iload_n C0.1.1 C0.1.2.1 dX1_owner_48 rfl (lv_at hl 2 rfl) ?_
            refine yl_bg C0 hz k (by omega) rfl dX1_owner_49 ?_
            refine gs_eq (y := nI (hs_b S k)) (h3.1) ?_
            refine lv_icmp_lt (tgt := 72) C0.1.1 C0.1.2.1 dX1_owner_50 (by decide) (fun c5 => ?_) (fun c5 => ?_)
            · rw [nI_ltI (by omega) (by omega)] at c5
              refine lv_iinc (v := nI (k + 1)) (lv' := [(2, .int (nI (k + 1))), (0, .ref (q 0)), (1, .int (nI a))]) C0.1.1 C0.1.2.1 dX1_owner_72 hl (k := 2) rfl (nI_1 k) (by decide) rfl (fun ls hl => ?_)
              refine lv_goto (tgt := 22) C0.1.1 C0.1.2.1 dX1_owner_75 (by decide) ?_
              have hl : lv_has ls 3 [(0, .ref (q 0)), (1, .int (nI a)), (2, .int (nI (k + 1)))] := lv_sub hl [1, 2, 0] rfl
              exact ih (d - 1) (by omega) (k + 1) ls _ _ hz (by omega) (fun g hg hgu => by
                by_cases z : g = k
                · subst z; omega
                · exact hno g (by omega) hgu) hl
            · rw [nI_ltI (by omega) (by omega)] at c5
              refine lv_iload_n C0.1.1 C0.1.2.1 dX1_owner_53 rfl (lv_at hl 1 rfl) ?_
              refine lv_aload_n C0.1.1 C0.1.2.1 dX1_owner_54 rfl (lv_at hl 0 rfl) ?_
              refine yg_bg C0 hin hz l_bg dX1_owner_55 ?_
              refine lv_iload_n C0.1.1 C0.1.2.1 dX1_owner_58 rfl (lv_at hl 2 rfl) ?_
              refine yl_bg C0 hz k (by omega) rfl dX1_owner_59 ?_
              refine gs_eq (y := nI (hs_b S k)) (h3.1) ?_
              refine lv_aload_n C0.1.1 C0.1.2.1 dX1_owner_60 rfl (lv_at hl 0 rfl) ?_
              refine yg_sz C0 hin hz l_sz dX1_owner_61 ?_
              refine lv_iload_n C0.1.1 C0.1.2.1 dX1_owner_64 rfl (lv_at hl 2 rfl) ?_
              refine yl_sz C0 hz k (by omega) rfl dX1_owner_65 ?_
              refine gs_eq (y := nI (hs_n S k)) (hS1.2.1 k (by omega)) ?_
              refine lv_iadd C0.1.1 C0.1.2.1 dX1_owner_66 ?_
              refine gs_eq (nI_add (hs_b S k) (hs_n S k)) ?_
              refine lv_icmp_ge (tgt := 72) C0.1.1 C0.1.2.1 dX1_owner_67 (by decide) (fun c6 => ?_) (fun c6 => ?_)
              · rw [nI_leI (by omega) (by omega)] at c6
                refine lv_iinc (v := nI (k + 1)) (lv' := [(2, .int (nI (k + 1))), (0, .ref (q 0)), (1, .int (nI a))]) C0.1.1 C0.1.2.1 dX1_owner_72 hl (k := 2) rfl (nI_1 k) (by decide) rfl (fun ls hl => ?_)
                refine lv_goto (tgt := 22) C0.1.1 C0.1.2.1 dX1_owner_75 (by decide) ?_
                have hl : lv_has ls 3 [(0, .ref (q 0)), (1, .int (nI a)), (2, .int (nI (k + 1)))] := lv_sub hl [1, 2, 0] rfl
                exact ih (d - 1) (by omega) (k + 1) ls _ _ hz (by omega) (fun g hg hgu => by
                  by_cases z : g = k
                  · subst z; omega
                  · exact hno g (by omega) hgu) hl
              · rw [nI_leI (by omega) (by omega)] at c6
                refine lv_iload_n C0.1.1 C0.1.2.1 dX1_owner_70 rfl (lv_at hl 2 rfl) ?_
                exact gs_reti r1 C0 hz (py_of hsp th1 (by rw [hs_ow_s hI (h := k) (by omega) c4 (by omega) (by omega) _ _ (Nat.zero_add _) (by obtain ⟨j, g1, g2⟩ := hg_at_of ((hI.2.1 k).mpr ⟨by omega, c4⟩); exact ⟨j, Nat.zero_le _, g1, g2⟩)]; rfl) hS1) (Nat.le_of_ble_eq_true rfl) (Nat.le_of_ble_eq_true rfl) dX1_owner_71
    · rw [nI_ltI (by omega) (by omega)] at c2
      refine lv_iconst (v := nI 1) C0.1.1 C0.1.2.1 dX1_owner_12 (by decide) ?_
      refine lv_goto (tgt := 17) C0.1.1 C0.1.2.1 dX1_owner_13 (by decide) ?_
      refine yp_th C0 hin hz l_th dX1_owner_17 (fun H locs hz => ?_)
      obtain ⟨r1, er1⟩ : ∃ z, z = ys_th r (nI 1) := ⟨_, rfl⟩
      rw [← er1] at hz
      refine lv_iconst (v := nI 0) C0.1.1 C0.1.2.1 dX1_owner_20 (by decide) ?_
      refine lv_istore_n (lv' := [(2, .int (nI 0)), (0, .ref (q 0)), (1, .int (nI a))]) C0.1.1 C0.1.2.1 dX1_owner_21 rfl hl (by decide) rfl (fun ls hl => ?_)
      refine lv_iload_n C0.1.1 C0.1.2.1 dX1_owner_22 rfl (lv_at hl 0 rfl) ?_
      refine lv_bipush (v := nI 48) C0.1.1 C0.1.2.1 dX1_owner_23 (by decide) ?_
      refine lv_icmp_ge (tgt := 78) C0.1.1 C0.1.2.1 dX1_owner_25 (by decide) (fun c9 => absurd c9 (by decide)) (fun _ => ?_)
      refine lv_aload_n C0.1.1 C0.1.2.1 dX1_owner_28 rfl (lv_at hl 1 rfl) ?_
      refine yg_th C0 hin hz l_th dX1_owner_29 ?_
      refine gs_eq (y := nI 1) (by rw [er1]; rfl) ?_
      refine lv_if_ne (tgt := 78) C0.1.1 C0.1.2.1 dX1_owner_32 (by decide) (fun _ => ?_) (fun c9 => absurd c9 (by decide))
      refine lv_aload_n C0.1.1 C0.1.2.1 dX1_owner_78 rfl (lv_at hl 1 rfl) ?_
      refine yg_th C0 hin hz l_th dX1_owner_79 ?_
      refine gs_eq (y := nI 1) (by rw [er1]; rfl) ?_
      refine lv_if_le (tgt := 89) C0.1.1 C0.1.2.1 dX1_owner_82 (by decide) (fun c9 => absurd c9 (by decide)) (fun _ => ?_)
      refine lv_iconst (v := nI 0) C0.1.1 C0.1.2.1 dX1_owner_85 (by decide) ?_
      refine lv_goto (tgt := 90) C0.1.1 C0.1.2.1 dX1_owner_86 (by decide) ?_
      exact gs_reti r1 C0 hz (py_x (sp_owner_x (fun ⟨k, h2, h3⟩ => by rw [nI_eq ha0 (by omega)] at h3; omega)) (by decide) (by rw [er1]; rfl) (by rw [er1]; exact hS)) (Nat.le_of_ble_eq_true rfl) (Nat.le_of_ble_eq_true rfl) dX1_owner_90
theorem sp_told_3 {S : hs_S} : sp_told S (nI 3) = (0, nI (hs_tc S 3 48), S) := by
  have h := hs_tc_3 (S := S) 48
  have h2 := hs_cn_le (hs_u S) 0 48
  show (0, nI (48 - hs_cn (hs_u S) 0 48), S) = _
  rw [show 48 - hs_cn (hs_u S) 0 48 = hs_tc S 3 48 by omega]
theorem sp_told_4 {S : hs_S} (hI : hs_I S) : sp_told S (nI 4) = (0, nI (hs_tc S 4 48), S) := by
  rw [hs_tc_4 hI 48 (Nat.le_refl _)]
  rfl
theorem sp_told_34 {S : hs_S} (hI : hs_I S) {w : Nat} (hw : w = 3 ∨ w = 4) : sp_told S (nI w) = (0, nI (hs_tc S w 48), S) := by
  rcases hw with rfl | rfl
  · exact sp_told_3
  · exact sp_told_4 hI
set_option maxHeartbeats 4000000 in
set_option maxRecDepth 100000 in
/-- told -/
theorem m_told (l : Launch) (G : gs_G) (q : Nat → Nat) (r : yr) (S : hs_S) (hS : ry S r) (hI : hs_I S) (x : Int32) : gm_i l yX1_told wsX1_told (gm_rm 8 0 0) G (yw G q) r [.ref (q 0), .int x] (fun res u => py (sp_told S x) res u) 0 0 := by
  refine gm_i.of (cc := cX1_told) (nL := 4) (ret := (some .int)) (by decide +kernel) rfl (Nat.le_of_ble_eq_true rfl) ?_
  intro p e s m args below meth c ls C0 hz hl
  have hin : ∀ w ∈ wsX10, w ∈ wsX1_told := by decide +kernel
  have l_th : Cond.fieldLink RX1 33 "HandleHeapModel" "thrown" "I" ∈ wsX1_told := by decide +kernel
  have l_us : Cond.fieldLink RX1 7 "HandleHeapModel" "used" "[Z" ∈ wsX1_told := by decide +kernel
  have l_sz : Cond.fieldLink RX1 17 "HandleHeapModel" "size" "[I" ∈ wsX1_told := by decide +kernel
  have l_mv : Cond.fieldLink RX1 51 "HandleHeapModel" "moved" "I" ∈ wsX1_told := by decide +kernel
  have l_lo : Cond.fieldLink RX1 54 "HandleHeapModel" "lost" "I" ∈ wsX1_told := by decide +kernel
  have hl : lv_has ls 4 [(0, .ref (q 0)), (1, .int x)] := hl
  refine lv_aload_n C0.1.1 C0.1.2.1 dX1_told_0 rfl (lv_at hl 0 rfl) ?_
  refine lv_iload_n C0.1.1 C0.1.2.1 dX1_told_1 rfl (lv_at hl 1 rfl) ?_
  refine lv_if_lt (tgt := 11) C0.1.1 C0.1.2.1 dX1_told_2 (by decide) (fun c1 => ?_) (fun c1 => ?_)
  · skip
    refine lv_iconst (v := nI 1) C0.1.1 C0.1.2.1 dX1_told_11 (by decide) ?_
    refine lv_goto (tgt := 16) C0.1.1 C0.1.2.1 dX1_told_12 (by decide) ?_
    refine yp_th C0 hin hz l_th dX1_told_16 (fun H locs hz => ?_)
    obtain ⟨r1, er1⟩ : ∃ z, z = ys_th r (nI 1) := ⟨_, rfl⟩
    rw [← er1] at hz
    refine lv_aload_n C0.1.1 C0.1.2.1 dX1_told_19 rfl (lv_at hl 0 rfl) ?_
    refine yg_th C0 hin hz l_th dX1_told_20 ?_
    refine gs_eq (y := nI 1) (by rw [er1]; rfl) ?_
    refine lv_if_le (tgt := 28) C0.1.1 C0.1.2.1 dX1_told_23 (by decide) (fun c9 => absurd c9 (by decide)) (fun _ => ?_)
    refine lv_iconst (v := nI 0) C0.1.1 C0.1.2.1 dX1_told_26 (by decide) ?_
    exact gs_reti r1 C0 hz (py_x (sp_told_x (fun ⟨k, _, h2, h3⟩ => by rw [h3] at c1; exact nI_pos (by omega) c1)) (by decide) (by rw [er1]; rfl) (by rw [er1]; exact hS)) (Nat.le_of_ble_eq_true rfl) (Nat.le_of_ble_eq_true rfl) dX1_told_27
  · skip
    obtain ⟨w, hw0, rfl⟩ := nI_of c1
    refine lv_iload_n C0.1.1 C0.1.2.1 dX1_told_5 rfl (lv_at hl 1 rfl) ?_
    refine lv_bipush (v := nI 6) C0.1.1 C0.1.2.1 dX1_told_6 (by decide) ?_
    refine lv_icmp_le (tgt := 15) C0.1.1 C0.1.2.1 dX1_told_8 (by decide) (fun c2 => ?_) (fun c2 => ?_)
    · rw [nI_leI (by omega) (by omega)] at c2
      refine lv_iconst (v := nI 0) C0.1.1 C0.1.2.1 dX1_told_15 (by decide) ?_
      refine yp_th C0 hin hz l_th dX1_told_16 (fun H locs hz => ?_)
      obtain ⟨r1, er1⟩ : ∃ z, z = ys_th r (nI 0) := ⟨_, rfl⟩
      rw [← er1] at hz
      refine lv_aload_n C0.1.1 C0.1.2.1 dX1_told_19 rfl (lv_at hl 0 rfl) ?_
      refine yg_th C0 hin hz l_th dX1_told_20 ?_
      refine gs_eq (y := nI 0) (by rw [er1]; rfl) ?_
      refine lv_if_le (tgt := 28) C0.1.1 C0.1.2.1 dX1_told_23 (by decide) (fun _ => ?_) (fun c9 => absurd (by decide) c9)
      have hS1 : ry S r1 := by rw [er1]; exact hS
      have th1 : y_th r1 = nI 0 := by rw [er1]; rfl
      refine lv_iconst (v := nI 0) C0.1.1 C0.1.2.1 dX1_told_28 (by decide) ?_
      refine lv_istore_n (lv' := [(2, .int (nI 0)), (0, .ref (q 0)), (1, .int (nI w))]) C0.1.1 C0.1.2.1 dX1_told_29 rfl hl (by decide) rfl (fun ls hl => ?_)
      refine lv_iconst (v := nI 0) C0.1.1 C0.1.2.1 dX1_told_30 (by decide) ?_
      refine lv_istore_n (lv' := [(3, .int (nI 0)), (2, .int (nI 0)), (0, .ref (q 0)), (1, .int (nI w))]) C0.1.1 C0.1.2.1 dX1_told_31 rfl hl (by decide) rfl (fun ls hl => ?_)
      have hl : lv_has ls 4 [(0, .ref (q 0)), (1, .int (nI w)), (2, .int (nI 0)), (3, .int (nI 0))] := lv_sub hl [2, 3, 1, 0] rfl
      refine (?loop : ∀ (d k : Nat) (ls : Array Slot) (H : Heap) (locs : List Loc), gs_Z G (yw G q r1) _ s H locs → k + d = 48 → lv_has ls 4 [(0, .ref (q 0)), (1, .int (nI w)), (2, .int (nI (hs_tc S w k))), (3, .int (nI k))] → W p l e _ s m args below meth c H locs 0 0 _ (F0 m 32 ls [])) 48 0 ls _ _ hz (Nat.zero_add _) hl
      intro d
      induction d using Nat.strongRecOn with
      | _ d ih =>
        intro k ls H locs hz hd hl
        refine lv_iload_n C0.1.1 C0.1.2.1 dX1_told_32 rfl (lv_at hl 3 rfl) ?_
        refine lv_bipush (v := nI 48) C0.1.1 C0.1.2.1 dX1_told_33 (by decide) ?_
        refine lv_icmp_ge (tgt := 80) C0.1.1 C0.1.2.1 dX1_told_35 (by decide) (fun c3 => ?_) (fun c3 => ?_)
        · rw [nI_leI (by omega) (by omega)] at c3
          obtain rfl : k = 48 := by omega
          refine lv_iload_n C0.1.1 C0.1.2.1 dX1_told_80 rfl (lv_at hl 1 rfl) ?_
          refine lv_if_ne (tgt := 92) C0.1.1 C0.1.2.1 dX1_told_81 (by decide) (fun c4 => ?_) (fun c4 => ?_)
          · rw [n0_eq (by omega)] at c4
            refine lv_iload_n C0.1.1 C0.1.2.1 dX1_told_92 rfl (lv_at hl 1 rfl) ?_
            refine lv_iconst (v := nI 1) C0.1.1 C0.1.2.1 dX1_told_93 (by decide) ?_
            refine lv_icmp_ne (tgt := 104) C0.1.1 C0.1.2.1 dX1_told_94 (by decide) (fun c5 => ?_) (fun c5 => ?_)
            · rw [nI_eq (by omega) (by omega)] at c5
              refine lv_iload_n C0.1.1 C0.1.2.1 dX1_told_104 rfl (lv_at hl 1 rfl) ?_
              refine lv_iconst (v := nI 2) C0.1.1 C0.1.2.1 dX1_told_105 (by decide) ?_
              refine lv_icmp_ne (tgt := 117) C0.1.1 C0.1.2.1 dX1_told_106 (by decide) (fun c6 => ?_) (fun c6 => ?_)
              · rw [nI_eq (by omega) (by omega)] at c6
                refine lv_iload_n C0.1.1 C0.1.2.1 dX1_told_117 rfl (lv_at hl 1 rfl) ?_
                refine lv_iconst (v := nI 5) C0.1.1 C0.1.2.1 dX1_told_118 (by decide) ?_
                refine lv_icmp_ge (tgt := 126) C0.1.1 C0.1.2.1 dX1_told_119 (by decide) (fun c7 => ?_) (fun c7 => ?_)
                · rw [nI_leI (by omega) (by omega)] at c7
                  refine lv_iload_n C0.1.1 C0.1.2.1 dX1_told_126 rfl (lv_at hl 1 rfl) ?_
                  refine lv_iconst (v := nI 5) C0.1.1 C0.1.2.1 dX1_told_127 (by decide) ?_
                  refine lv_icmp_ne (tgt := 138) C0.1.1 C0.1.2.1 dX1_told_128 (by decide) (fun c8 => ?_) (fun c8 => ?_)
                  · rw [nI_eq (by omega) (by omega)] at c8
                    obtain rfl : w = 6 := by omega
                    refine lv_aload_n C0.1.1 C0.1.2.1 dX1_told_138 rfl (lv_at hl 0 rfl) ?_
                    refine yg_lo C0 hin hz l_lo dX1_told_139 ?_
                    refine gs_eq (y := hs_x S) (hS1.2.2.2.2.2) ?_
                    exact gs_reti r1 C0 hz (py_of (t := sp_told S (nI 6)) rfl th1 rfl hS1) (Nat.le_of_ble_eq_true rfl) (Nat.le_of_ble_eq_true rfl) dX1_told_142
                  · rw [nI_eq (by omega) (by omega)] at c8
                    obtain rfl : w = 5 := by omega
                    refine lv_aload_n C0.1.1 C0.1.2.1 dX1_told_131 rfl (lv_at hl 0 rfl) ?_
                    refine yg_mv C0 hin hz l_mv dX1_told_132 ?_
                    refine gs_eq (y := hs_m S) (hS1.2.2.2.2.1) ?_
                    refine lv_goto (tgt := 142) C0.1.1 C0.1.2.1 dX1_told_135 (by decide) ?_
                    exact gs_reti r1 C0 hz (py_of (t := sp_told S (nI 5)) rfl th1 rfl hS1) (Nat.le_of_ble_eq_true rfl) (Nat.le_of_ble_eq_true rfl) dX1_told_142
                · rw [nI_leI (by omega) (by omega)] at c7
                  refine lv_iload_n C0.1.1 C0.1.2.1 dX1_told_122 rfl (lv_at hl 2 rfl) ?_
                  refine lv_goto (tgt := 142) C0.1.1 C0.1.2.1 dX1_told_123 (by decide) ?_
                  exact gs_reti r1 C0 hz (py_of (sp_told_34 hI (by omega)) th1 rfl hS1) (Nat.le_of_ble_eq_true rfl) (Nat.le_of_ble_eq_true rfl) dX1_told_142
              · rw [nI_eq (by omega) (by omega)] at c6
                obtain rfl : w = 2 := by omega
                refine lv_aload_n C0.1.1 C0.1.2.1 dX1_told_109 rfl (lv_at hl 0 rfl) ?_
                refine lv_iconst (v := nI 1) C0.1.1 C0.1.2.1 dX1_told_110 (by decide) ?_
                refine gs_eq (y := bI true) (rfl) ?_
                refine gs_callVi (w := yw G q) (wr := []) C0.1 (m_free l G q r1 S hS1 hI true) (cwV 1 C0.1.2.2.2.2 gX1_told_X1_free rfl rfl rfl (by decide +kernel) ⟨Nat.le_of_ble_eq_true rfl, Nat.le_of_ble_eq_true rfl⟩) (ci := 1) rfl rfl rfl (gs_nil hz) rfl hl.1 rfl (Nat.le_of_ble_eq_true rfl) dX1_told_111 ⟨Nat.le_of_ble_eq_true rfl, Nat.le_of_ble_eq_true rfl⟩ (fun res u9 H locs hp9 hz => ?_)
                replace hz := gs_unnil hz
                rw [hp9.1] at hz
                refine gs_eq (y := nI (hs_ct S ((hs_R S).length + 1))) (hp9.2) ?_
                clear hp9
                refine lv_goto (tgt := 142) C0.1.1 C0.1.2.1 dX1_told_114 (by decide) ?_
                exact gs_reti r1 C0 hz (py_of (t := sp_told S (nI 2)) rfl th1 rfl hS1) (Nat.le_of_ble_eq_true rfl) (Nat.le_of_ble_eq_true rfl) dX1_told_142
            · rw [nI_eq (by omega) (by omega)] at c5
              obtain rfl : w = 1 := by omega
              refine lv_aload_n C0.1.1 C0.1.2.1 dX1_told_97 rfl (lv_at hl 0 rfl) ?_
              refine gs_callVi (w := yw G q) (wr := []) C0.1 (m_greatest l G q r1 S hS1 hI) (cwV 0 C0.1.2.2.2.2 gX1_told_X1_greatest rfl rfl rfl (by decide +kernel) ⟨Nat.le_of_ble_eq_true rfl, Nat.le_of_ble_eq_true rfl⟩) (ci := 1) rfl rfl rfl (gs_nil hz) rfl hl.1 rfl (Nat.le_of_ble_eq_true rfl) dX1_told_98 ⟨Nat.le_of_ble_eq_true rfl, Nat.le_of_ble_eq_true rfl⟩ (fun res u9 H locs hp9 hz => ?_)
              replace hz := gs_unnil hz
              rw [hp9.1] at hz
              refine gs_eq (y := nI (hs_gg S)) (hp9.2) ?_
              clear hp9
              refine lv_goto (tgt := 142) C0.1.1 C0.1.2.1 dX1_told_101 (by decide) ?_
              exact gs_reti r1 C0 hz (py_of (t := sp_told S (nI 1)) rfl th1 rfl hS1) (Nat.le_of_ble_eq_true rfl) (Nat.le_of_ble_eq_true rfl) dX1_told_142
          · rw [n0_eq (by omega)] at c4
            obtain rfl : w = 0 := by omega
            refine lv_aload_n C0.1.1 C0.1.2.1 dX1_told_84 rfl (lv_at hl 0 rfl) ?_
            refine lv_iconst (v := nI 0) C0.1.1 C0.1.2.1 dX1_told_85 (by decide) ?_
            refine gs_eq (y := bI false) (rfl) ?_
            refine gs_callVi (w := yw G q) (wr := []) C0.1 (m_free l G q r1 S hS1 hI false) (cwV 1 C0.1.2.2.2.2 gX1_told_X1_free rfl rfl rfl (by decide +kernel) ⟨Nat.le_of_ble_eq_true rfl, Nat.le_of_ble_eq_true rfl⟩) (ci := 1) rfl rfl rfl (gs_nil hz) rfl hl.1 rfl (Nat.le_of_ble_eq_true rfl) dX1_told_86 ⟨Nat.le_of_ble_eq_true rfl, Nat.le_of_ble_eq_true rfl⟩ (fun res u9 H locs hp9 hz => ?_)
            replace hz := gs_unnil hz
            rw [hp9.1] at hz
            refine gs_eq (y := nI (hs_sm S ((hs_R S).length + 1))) (hp9.2) ?_
            clear hp9
            refine lv_goto (tgt := 142) C0.1.1 C0.1.2.1 dX1_told_89 (by decide) ?_
            exact gs_reti r1 C0 hz (py_of (t := sp_told S (nI 0)) rfl th1 rfl hS1) (Nat.le_of_ble_eq_true rfl) (Nat.le_of_ble_eq_true rfl) dX1_told_142
        · rw [nI_leI (by omega) (by omega)] at c3
          refine lv_aload_n C0.1.1 C0.1.2.1 dX1_told_38 rfl (lv_at hl 0 rfl) ?_
          refine yg_us C0 hin hz l_us dX1_told_39 ?_
          refine lv_iload_n C0.1.1 C0.1.2.1 dX1_told_42 rfl (lv_at hl 3 rfl) ?_
          refine yl_us C0 hz k (by omega) rfl dX1_told_43 ?_
          refine gs_eq (y := bI (decide (hs_u S k ≠ 0))) (hS1.1 k (by omega)) ?_
          refine lv_if_eq (tgt := 72) C0.1.1 C0.1.2.1 dX1_told_44 (by decide) (fun c4 => ?_) (fun c4 => ?_)
          · skip
            rw [bI_d0] at c4
            refine lv_iload_n C0.1.1 C0.1.2.1 dX1_told_72 rfl (lv_at hl 2 rfl) ?_
            refine lv_istore_n (lv' := [(2, .int (nI (hs_tc S w k))), (0, .ref (q 0)), (1, .int (nI w)), (3, .int (nI k))]) C0.1.1 C0.1.2.1 dX1_told_73 rfl hl (by decide) rfl (fun ls hl => ?_)
            rw [show hs_tc S w k = hs_tc S w (k + 1) by rw [hs_tc, if_neg (fun z => c4 z.1)]] at hl
            refine lv_iinc (v := nI (k + 1)) (lv' := [(3, .int (nI (k + 1))), (2, .int (nI (hs_tc S w (k + 1)))), (0, .ref (q 0)), (1, .int (nI w))]) C0.1.1 C0.1.2.1 dX1_told_74 hl (k := 3) rfl (nI_1 k) (by decide) rfl (fun ls hl => ?_)
            refine lv_goto (tgt := 32) C0.1.1 C0.1.2.1 dX1_told_77 (by decide) ?_
            have hl : lv_has ls 4 [(0, .ref (q 0)), (1, .int (nI w)), (2, .int (nI (hs_tc S w (k + 1)))), (3, .int (nI (k + 1)))] := lv_sub hl [2, 3, 1, 0] rfl
            exact ih (d - 1) (by omega) (k + 1) ls _ _ hz (by omega) hl
          · skip
            rw [bI_dn] at c4
            refine lv_iload_n C0.1.1 C0.1.2.1 dX1_told_47 rfl (lv_at hl 1 rfl) ?_
            refine lv_iconst (v := nI 3) C0.1.1 C0.1.2.1 dX1_told_48 (by decide) ?_
            refine lv_icmp_eq (tgt := 66) C0.1.1 C0.1.2.1 dX1_told_49 (by decide) (fun c5 => ?_) (fun c5 => ?_)
            · rw [nI_eq (by omega) (by omega)] at c5
              refine lv_iload_n C0.1.1 C0.1.2.1 dX1_told_66 rfl (lv_at hl 2 rfl) ?_
              refine lv_iconst (v := nI 1) C0.1.1 C0.1.2.1 dX1_told_67 (by decide) ?_
              refine lv_iadd C0.1.1 C0.1.2.1 dX1_told_68 ?_
              refine gs_eq (nI_add (hs_tc S w k) 1) ?_
              refine lv_goto (tgt := 73) C0.1.1 C0.1.2.1 dX1_told_69 (by decide) ?_
              refine lv_istore_n (lv' := [(2, .int (nI ((hs_tc S w k) + 1))), (0, .ref (q 0)), (1, .int (nI w)), (3, .int (nI k))]) C0.1.1 C0.1.2.1 dX1_told_73 rfl hl (by decide) rfl (fun ls hl => ?_)
              rw [show hs_tc S w k + 1 = hs_tc S w (k + 1) by rw [hs_tc, if_pos (⟨c4, Or.inl c5⟩)]] at hl
              refine lv_iinc (v := nI (k + 1)) (lv' := [(3, .int (nI (k + 1))), (2, .int (nI (hs_tc S w (k + 1)))), (0, .ref (q 0)), (1, .int (nI w))]) C0.1.1 C0.1.2.1 dX1_told_74 hl (k := 3) rfl (nI_1 k) (by decide) rfl (fun ls hl => ?_)
              refine lv_goto (tgt := 32) C0.1.1 C0.1.2.1 dX1_told_77 (by decide) ?_
              have hl : lv_has ls 4 [(0, .ref (q 0)), (1, .int (nI w)), (2, .int (nI (hs_tc S w (k + 1)))), (3, .int (nI (k + 1)))] := lv_sub hl [2, 3, 1, 0] rfl
              exact ih (d - 1) (by omega) (k + 1) ls _ _ hz (by omega) hl
            · rw [nI_eq (by omega) (by omega)] at c5
              refine lv_iload_n C0.1.1 C0.1.2.1 dX1_told_52 rfl (lv_at hl 1 rfl) ?_
              refine lv_iconst (v := nI 4) C0.1.1 C0.1.2.1 dX1_told_53 (by decide) ?_
              refine lv_icmp_ne (tgt := 72) C0.1.1 C0.1.2.1 dX1_told_54 (by decide) (fun c6 => ?_) (fun c6 => ?_)
              · rw [nI_eq (by omega) (by omega)] at c6
                refine lv_iload_n C0.1.1 C0.1.2.1 dX1_told_72 rfl (lv_at hl 2 rfl) ?_
                refine lv_istore_n (lv' := [(2, .int (nI (hs_tc S w k))), (0, .ref (q 0)), (1, .int (nI w)), (3, .int (nI k))]) C0.1.1 C0.1.2.1 dX1_told_73 rfl hl (by decide) rfl (fun ls hl => ?_)
                rw [show hs_tc S w k = hs_tc S w (k + 1) by rw [hs_tc, if_neg (fun z => by rcases z.2 with z2 | z2 <;> omega)]] at hl
                refine lv_iinc (v := nI (k + 1)) (lv' := [(3, .int (nI (k + 1))), (2, .int (nI (hs_tc S w (k + 1)))), (0, .ref (q 0)), (1, .int (nI w))]) C0.1.1 C0.1.2.1 dX1_told_74 hl (k := 3) rfl (nI_1 k) (by decide) rfl (fun ls hl => ?_)
                refine lv_goto (tgt := 32) C0.1.1 C0.1.2.1 dX1_told_77 (by decide) ?_
                have hl : lv_has ls 4 [(0, .ref (q 0)), (1, .int (nI w)), (2, .int (nI (hs_tc S w (k + 1)))), (3, .int (nI (k + 1)))] := lv_sub hl [2, 3, 1, 0] rfl
                exact ih (d - 1) (by omega) (k + 1) ls _ _ hz (by omega) hl
              · rw [nI_eq (by omega) (by omega)] at c6
                have hn1 := hI.n1024 (h := k) (by omega)
                refine lv_aload_n C0.1.1 C0.1.2.1 dX1_told_57 rfl (lv_at hl 0 rfl) ?_
                refine yg_sz C0 hin hz l_sz dX1_told_58 ?_
                refine lv_iload_n C0.1.1 C0.1.2.1 dX1_told_61 rfl (lv_at hl 3 rfl) ?_
                refine yl_sz C0 hz k (by omega) rfl dX1_told_62 ?_
                refine gs_eq (y := nI (hs_n S k)) (hS1.2.1 k (by omega)) ?_
                refine lv_if_ne (tgt := 72) C0.1.1 C0.1.2.1 dX1_told_63 (by decide) (fun c7 => ?_) (fun c7 => ?_)
                · rw [n0_eq (by omega)] at c7
                  refine lv_iload_n C0.1.1 C0.1.2.1 dX1_told_72 rfl (lv_at hl 2 rfl) ?_
                  refine lv_istore_n (lv' := [(2, .int (nI (hs_tc S w k))), (0, .ref (q 0)), (1, .int (nI w)), (3, .int (nI k))]) C0.1.1 C0.1.2.1 dX1_told_73 rfl hl (by decide) rfl (fun ls hl => ?_)
                  rw [show hs_tc S w k = hs_tc S w (k + 1) by rw [hs_tc, if_neg (fun z => by rcases z.2 with z2 | z2 <;> omega)]] at hl
                  refine lv_iinc (v := nI (k + 1)) (lv' := [(3, .int (nI (k + 1))), (2, .int (nI (hs_tc S w (k + 1)))), (0, .ref (q 0)), (1, .int (nI w))]) C0.1.1 C0.1.2.1 dX1_told_74 hl (k := 3) rfl (nI_1 k) (by decide) rfl (fun ls hl => ?_)
                  refine lv_goto (tgt := 32) C0.1.1 C0.1.2.1 dX1_told_77 (by decide) ?_
                  have hl : lv_has ls 4 [(0, .ref (q 0)), (1, .int (nI w)), (2, .int (nI (hs_tc S w (k + 1)))), (3, .int (nI (k + 1)))] := lv_sub hl [2, 3, 1, 0] rfl
                  exact ih (d - 1) (by omega) (k + 1) ls _ _ hz (by omega) hl
                · rw [n0_eq (by omega)] at c7
                  refine lv_iload_n C0.1.1 C0.1.2.1 dX1_told_66 rfl (lv_at hl 2 rfl) ?_
                  refine lv_iconst (v := nI 1) C0.1.1 C0.1.2.1 dX1_told_67 (by decide) ?_
                  refine lv_iadd C0.1.1 C0.1.2.1 dX1_told_68 ?_
                  refine gs_eq (nI_add (hs_tc S w k) 1) ?_
                  refine lv_goto (tgt := 73) C0.1.1 C0.1.2.1 dX1_told_69 (by decide) ?_
                  refine lv_istore_n (lv' := [(2, .int (nI ((hs_tc S w k) + 1))), (0, .ref (q 0)), (1, .int (nI w)), (3, .int (nI k))]) C0.1.1 C0.1.2.1 dX1_told_73 rfl hl (by decide) rfl (fun ls hl => ?_)
                  rw [show hs_tc S w k + 1 = hs_tc S w (k + 1) by rw [hs_tc, if_pos (⟨c4, Or.inr ⟨c6, c7⟩⟩)]] at hl
                  refine lv_iinc (v := nI (k + 1)) (lv' := [(3, .int (nI (k + 1))), (2, .int (nI (hs_tc S w (k + 1)))), (0, .ref (q 0)), (1, .int (nI w))]) C0.1.1 C0.1.2.1 dX1_told_74 hl (k := 3) rfl (nI_1 k) (by decide) rfl (fun ls hl => ?_)
                  refine lv_goto (tgt := 32) C0.1.1 C0.1.2.1 dX1_told_77 (by decide) ?_
                  have hl : lv_has ls 4 [(0, .ref (q 0)), (1, .int (nI w)), (2, .int (nI (hs_tc S w (k + 1)))), (3, .int (nI (k + 1)))] := lv_sub hl [2, 3, 1, 0] rfl
                  exact ih (d - 1) (by omega) (k + 1) ls _ _ hz (by omega) hl
    · rw [nI_leI (by omega) (by omega)] at c2
      refine lv_iconst (v := nI 1) C0.1.1 C0.1.2.1 dX1_told_11 (by decide) ?_
      refine lv_goto (tgt := 16) C0.1.1 C0.1.2.1 dX1_told_12 (by decide) ?_
      refine yp_th C0 hin hz l_th dX1_told_16 (fun H locs hz => ?_)
      obtain ⟨r1, er1⟩ : ∃ z, z = ys_th r (nI 1) := ⟨_, rfl⟩
      rw [← er1] at hz
      refine lv_aload_n C0.1.1 C0.1.2.1 dX1_told_19 rfl (lv_at hl 0 rfl) ?_
      refine yg_th C0 hin hz l_th dX1_told_20 ?_
      refine gs_eq (y := nI 1) (by rw [er1]; rfl) ?_
      refine lv_if_le (tgt := 28) C0.1.1 C0.1.2.1 dX1_told_23 (by decide) (fun c9 => absurd c9 (by decide)) (fun _ => ?_)
      refine lv_iconst (v := nI 0) C0.1.1 C0.1.2.1 dX1_told_26 (by decide) ?_
      exact gs_reti r1 C0 hz (py_x (sp_told_x (fun ⟨k, _, h2, h3⟩ => by rw [nI_eq hw0 (by omega)] at h3; omega)) (by decide) (by rw [er1]; rfl) (by rw [er1]; exact hS)) (Nat.le_of_ble_eq_true rfl) (Nat.le_of_ble_eq_true rfl) dX1_told_27
