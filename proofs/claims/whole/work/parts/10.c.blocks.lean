/-! HandleHeap: blocks lost, slid, found room for, made -/
set_option maxHeartbeats 4000000 in
set_option maxRecDepth 100000 in
/-- takeBlock -/
theorem k_takeBlock (l : Launch) (G : gs_G) (q : Nat → Nat) (r : xr) (S : hs_S) (hS : rx S r) (hJ : hs_J S) (h v : Nat) (hh : h < 48) (hv : v < 2) : gm_v l yX0_takeBlock wsX0_takeBlock (gm_rm 2 0 0) G (xw G q) r [.ref (q 0), .int (nI h), .int (xb v 0)] (fun u => rx (hs_tk S h v) u) 0 0 := by
  refine gm_v.of (cc := cX0_takeBlock) (nL := 3) (ret := none) (by decide +kernel) rfl (Nat.le_of_ble_eq_true rfl) ?_
  intro p e s m args below meth c ls C0 hz hl
  have hin : ∀ w ∈ wsX00, w ∈ wsX0_takeBlock := by decide +kernel
  have l_bg : Cond.fieldLink RX0 13 "HandleHeap" "begin" "[I" ∈ wsX0_takeBlock := by decide +kernel
  have l_ln : Cond.fieldLink RX0 22 "HandleHeap" "length" "[I" ∈ wsX0_takeBlock := by decide +kernel
  have hl : lv_has ls 3 [(0, .ref (q 0)), (1, .int (nI h)), (2, .int (xb v 0))] := hl
  refine lv_aload_n C0.1.1 C0.1.2.1 dX0_takeBlock_0 rfl (lv_at hl 0 rfl) ?_
  refine lv_iload_n C0.1.1 C0.1.2.1 dX0_takeBlock_1 rfl (lv_at hl 1 rfl) ?_
  refine gs_callVv (w := xw G q) (wr := []) C0.1 (k_leaveRow l G q r (hs_R S) hS.2.2.2.1 hJ.len (fun x hx => (hJ.2 x hx).1) h hh) (cwV 1 C0.1.2.2.2.2 gX0_takeBlock_X0_leaveRow rfl rfl rfl (by decide +kernel) ⟨Nat.le_of_ble_eq_true rfl, Nat.le_of_ble_eq_true rfl⟩) (ci := 0) rfl rfl rfl (gs_nil hz) rfl hl.1 rfl (Nat.le_of_ble_eq_true rfl) dX0_takeBlock_2 ⟨Nat.le_of_ble_eq_true rfl, Nat.le_of_ble_eq_true rfl⟩ (fun u H locs hp hz => ?_)
  replace hz := gs_unnil hz
  obtain ⟨w, rfl, hw⟩ := hp
  refine lv_aload_n C0.1.1 C0.1.2.1 dX0_takeBlock_5 rfl (lv_at hl 0 rfl) ?_
  refine xg_bg C0 hin hz l_bg dX0_takeBlock_6 ?_
  refine lv_iload_n C0.1.1 C0.1.2.1 dX0_takeBlock_9 rfl (lv_at hl 1 rfl) ?_
  refine lv_iload_n C0.1.1 C0.1.2.1 dX0_takeBlock_10 rfl (lv_at hl 2 rfl) ?_
  refine xt_bg C0 hz h (by omega) rfl dX0_takeBlock_11 (fun H locs hz => ?_)
  refine lv_aload_n C0.1.1 C0.1.2.1 dX0_takeBlock_12 rfl (lv_at hl 0 rfl) ?_
  refine xg_ln C0 hin hz l_ln dX0_takeBlock_13 ?_
  refine lv_iload_n C0.1.1 C0.1.2.1 dX0_takeBlock_16 rfl (lv_at hl 1 rfl) ?_
  refine lv_iconst (v := nI 0) C0.1.1 C0.1.2.1 dX0_takeBlock_17 (by decide) ?_
  refine xt_ln C0 hz h (by omega) rfl dX0_takeBlock_18 (fun H locs hz => ?_)
  exact gs_retv (xs_ln (xs_bg (xs_nb (xs_rw r w) (nI (hg_out (hs_R S) h).length)) (upd (x_bg (xs_nb (xs_rw r w) (nI (hg_out (hs_R S) h).length))) h (xb v 0))) (upd (x_ln (xs_bg (xs_nb (xs_rw r w) (nI (hg_out (hs_R S) h).length)) (upd (x_bg (xs_nb (xs_rw r w) (nI (hg_out (hs_R S) h).length))) h (xb v 0)))) h (nI 0))) C0 hz (rx_tk hS hh hv hw) (Nat.le_of_ble_eq_true rfl) (Nat.le_of_ble_eq_true rfl) dX0_takeBlock_19
set_option maxHeartbeats 4000000 in
set_option maxRecDepth 100000 in
/-- giveUp -/
theorem k_giveUp (l : Launch) (G : gs_G) (q : Nat → Nat) (r : xr) (S : hs_S) (hS : rx S r) (hJ : hs_J S) (h : Nat) (hh : h < 48) : gm_v l yX0_giveUp wsX0_giveUp (gm_rm 3 0 0) G (xw G q) r [.ref (q 0), .int (nI h)] (fun u => rx (hs_gu S h) u) 0 0 := by
  refine gm_v.of (cc := cX0_giveUp) (nL := 2) (ret := none) (by decide +kernel) rfl (Nat.le_of_ble_eq_true rfl) ?_
  intro p e s m args below meth c ls C0 hz hl
  have hin : ∀ w ∈ wsX00, w ∈ wsX0_giveUp := by decide +kernel
  have l_lo : Cond.fieldLink RX0 45 "HandleHeap" "blocksLost" "I" ∈ wsX0_giveUp := by decide +kernel
  have hl : lv_has ls 2 [(0, .ref (q 0)), (1, .int (nI h))] := hl
  refine lv_aload_n C0.1.1 C0.1.2.1 dX0_giveUp_0 rfl (lv_at hl 0 rfl) ?_
  refine lv_iload_n C0.1.1 C0.1.2.1 dX0_giveUp_1 rfl (lv_at hl 1 rfl) ?_
  refine lv_bipush (v := (-2)) C0.1.1 C0.1.2.1 dX0_giveUp_2 (by decide) ?_
  refine gs_eq (y := xb 1 0) (rfl) ?_
  refine gs_callVv (w := xw G q) (wr := []) C0.1 (k_takeBlock l G q r S hS hJ h 1 hh (by decide)) (cwV 2 C0.1.2.2.2.2 gX0_giveUp_X0_takeBlock rfl rfl rfl (by decide +kernel) ⟨Nat.le_of_ble_eq_true rfl, Nat.le_of_ble_eq_true rfl⟩) (ci := 0) rfl rfl rfl (gs_nil hz) rfl hl.1 rfl (Nat.le_of_ble_eq_true rfl) dX0_giveUp_4 ⟨Nat.le_of_ble_eq_true rfl, Nat.le_of_ble_eq_true rfl⟩ (fun u H locs hp hz => ?_)
  replace hz := gs_unnil hz
  refine lv_aload_n C0.1.1 C0.1.2.1 dX0_giveUp_7 rfl (lv_at hl 0 rfl) ?_
  refine lv_dup C0.1.1 C0.1.2.1 dX0_giveUp_8 rfl ?_
  refine xg_lo C0 hin hz l_lo dX0_giveUp_9 ?_
  refine lv_iconst (v := nI 1) C0.1.1 C0.1.2.1 dX0_giveUp_12 (by decide) ?_
  refine lv_iadd C0.1.1 C0.1.2.1 dX0_giveUp_13 ?_
  refine xp_lo C0 hin hz l_lo dX0_giveUp_14 (fun H locs hz => ?_)
  exact gs_retv (xs_lo u ((x_lo u) + (nI 1))) C0 hz (rx_lo hp) (Nat.le_of_ble_eq_true rfl) (Nat.le_of_ble_eq_true rfl) dX0_giveUp_17
set_option maxHeartbeats 4000000 in
set_option maxRecDepth 100000 in
/-- giveUpFirst -/
theorem k_giveUpFirst (l : Launch) (G : gs_G) (q : Nat → Nat) (r : xr) (S : hs_S) (hS : rx S r) (hJ : hs_J S) (but : Nat) (sp : Int32) (hsp : (but < 48 ∧ sp = nI but) ∨ (but = 48 ∧ sp = -1)) : gm_i l yX0_giveUpFirst wsX0_giveUpFirst (gm_rm 4 0 0) G (xw G q) r [.ref (q 0), .int sp] (fun res u => match hs_l1 S but with | none => res = nI 0 ∧ u = r | some h => res = nI 1 ∧ rx (hs_gu S h) u) 0 0 := by
  refine gm_i.of (cc := cX0_giveUpFirst) (nL := 4) (ret := (some .boolean)) (by decide +kernel) rfl (Nat.le_of_ble_eq_true rfl) ?_
  intro p e s m args below meth c ls C0 hz hl
  have hin : ∀ w ∈ wsX00, w ∈ wsX0_giveUpFirst := by decide +kernel
  have l_nb : Cond.fieldLink RX0 38 "HandleHeap" "blocks" "I" ∈ wsX0_giveUpFirst := by decide +kernel
  have l_rw : Cond.fieldLink RX0 35 "HandleHeap" "row" "[I" ∈ wsX0_giveUpFirst := by decide +kernel
  have l_ls : Cond.fieldLink RX0 32 "HandleHeap" "isLosable" "[Z" ∈ wsX0_giveUpFirst := by decide +kernel
  have hl : lv_has ls 4 [(0, .ref (q 0)), (1, .int sp)] := hl
  have hlen := hJ.len
  have hq : ∀ x, x < 48 → (nI x = sp ↔ x = but) := by
    intro x hx
    rcases hsp with ⟨h1, h2⟩ | ⟨h1, h2⟩
    · rw [h2, nI_eq (by omega) (by omega)]
    · rw [h2]
      exact ⟨fun z => absurd z (n0_ne (by omega)), fun z => by omega⟩
  refine lv_iconst (v := nI 0) C0.1.1 C0.1.2.1 dX0_giveUpFirst_0 (by decide) ?_
  refine lv_istore_n (lv' := [(2, .int (nI 0)), (0, .ref (q 0)), (1, .int sp)]) C0.1.1 C0.1.2.1 dX0_giveUpFirst_1 rfl hl (by decide) rfl (fun ls hl => ?_)
  have hl : lv_has ls 4 [(0, .ref (q 0)), (1, .int sp), (2, .int (nI 0))] := lv_sub hl [1, 2, 0] rfl
  refine (?loop : ∀ (d k : Nat) (ls : Array Slot) (H : Heap) (locs : List Loc), gs_Z G (xw G q r) _ s H locs → k + d = (hs_R S).length → hs_l1 S but = hs_lf S but d k → lv_has ls 4 [(0, .ref (q 0)), (1, .int sp), (2, .int (nI k))] → W p l e _ s m args below meth c H locs 0 0 _ (F0 m 2 ls [])) _ 0 ls _ _ hz (Nat.zero_add _) rfl hl
  intro d
  induction d using Nat.strongRecOn with
  | _ d ih =>
    intro k ls H locs hz hd key hl
    refine lv_iload_n C0.1.1 C0.1.2.1 dX0_giveUpFirst_2 rfl (lv_at hl 2 rfl) ?_
    refine lv_aload_n C0.1.1 C0.1.2.1 dX0_giveUpFirst_3 rfl (lv_at hl 0 rfl) ?_
    refine xg_nb C0 hin hz l_nb dX0_giveUpFirst_4 ?_
    refine gs_eq (y := nI ((hs_R S).length)) (hS.2.2.2.1.1) ?_
    refine lv_icmp_ge (tgt := 52) C0.1.1 C0.1.2.1 dX0_giveUpFirst_7 (by decide) (fun c1 => ?_) (fun c1 => ?_)
    · rw [nI_leI (by omega) (by omega)] at c1
      obtain rfl : d = 0 := by omega
      refine lv_iconst (v := nI 0) C0.1.1 C0.1.2.1 dX0_giveUpFirst_52 (by decide) ?_
      exact gs_retz r C0 hz (by decide) (by rw [key]; exact ⟨rfl, rfl⟩) (Nat.le_of_ble_eq_true rfl) (Nat.le_of_ble_eq_true rfl) dX0_giveUpFirst_53
    · rw [nI_leI (by omega) (by omega)] at c1
      obtain ⟨d', rfl⟩ : ∃ d', d = d' + 1 := ⟨d - 1, by omega⟩
      have hk1 : k < (hs_R S).length := by omega
      have hat := hJ.at hk1
      have hfl := hS.2.2.1 _ hat.1 hat.2
      refine lv_aload_n C0.1.1 C0.1.2.1 dX0_giveUpFirst_10 rfl (lv_at hl 0 rfl) ?_
      refine xg_rw C0 hin hz l_rw dX0_giveUpFirst_11 ?_
      refine lv_iload_n C0.1.1 C0.1.2.1 dX0_giveUpFirst_14 rfl (lv_at hl 2 rfl) ?_
      refine xl_rw C0 hz k (by omega) rfl dX0_giveUpFirst_15 ?_
      refine gs_eq (y := nI (hg_at (hs_R S) k)) (hS.2.2.2.1.2 _ hk1) ?_
      refine lv_istore_n (lv' := [(3, .int (nI (hg_at (hs_R S) k))), (0, .ref (q 0)), (1, .int sp), (2, .int (nI k))]) C0.1.1 C0.1.2.1 dX0_giveUpFirst_16 rfl hl (by decide) rfl (fun ls hl => ?_)
      refine lv_iload_n C0.1.1 C0.1.2.1 dX0_giveUpFirst_17 rfl (lv_at hl 0 rfl) ?_
      refine lv_iload_n C0.1.1 C0.1.2.1 dX0_giveUpFirst_18 rfl (lv_at hl 2 rfl) ?_
      refine lv_icmp_eq (tgt := 46) C0.1.1 C0.1.2.1 dX0_giveUpFirst_19 (by decide) (fun c2 => ?_) (fun c2 => ?_)
      · skip
        rw [hq _ hat.1] at c2
        refine lv_iinc (v := nI (k + 1)) (lv' := [(2, .int (nI (k + 1))), (3, .int (nI (hg_at (hs_R S) k))), (0, .ref (q 0)), (1, .int sp)]) C0.1.1 C0.1.2.1 dX0_giveUpFirst_46 hl (k := 3) rfl (nI_1 k) (by decide) rfl (fun ls hl => ?_)
        refine lv_goto (tgt := 2) C0.1.1 C0.1.2.1 dX0_giveUpFirst_49 (by decide) ?_
        have hl : lv_has ls 4 [(0, .ref (q 0)), (1, .int sp), (2, .int (nI (k + 1)))] := lv_sub hl [2, 3, 0] rfl
        exact ih d' (by omega) (k + 1) ls _ _ hz (by omega) (by rw [key, hs_lf, if_neg (fun z => z.1 c2)]) hl
      · skip
        rw [hq _ hat.1] at c2
        refine lv_aload_n C0.1.1 C0.1.2.1 dX0_giveUpFirst_22 rfl (lv_at hl 1 rfl) ?_
        refine xg_ls C0 hin hz l_ls dX0_giveUpFirst_23 ?_
        refine lv_iload_n C0.1.1 C0.1.2.1 dX0_giveUpFirst_26 rfl (lv_at hl 0 rfl) ?_
        refine xl_ls C0 hz (hg_at (hs_R S) k) (hat.1) rfl dX0_giveUpFirst_27 ?_
        refine gs_eq (y := bI (hs_o S (hg_at (hs_R S) k))) (hfl.2.2) ?_
        refine lv_if_eq (tgt := 46) C0.1.1 C0.1.2.1 dX0_giveUpFirst_28 (by decide) (fun c3 => ?_) (fun c3 => ?_)
        · skip
          rw [bI_0] at c3
          refine lv_iinc (v := nI (k + 1)) (lv' := [(2, .int (nI (k + 1))), (3, .int (nI (hg_at (hs_R S) k))), (0, .ref (q 0)), (1, .int sp)]) C0.1.1 C0.1.2.1 dX0_giveUpFirst_46 hl (k := 3) rfl (nI_1 k) (by decide) rfl (fun ls hl => ?_)
          refine lv_goto (tgt := 2) C0.1.1 C0.1.2.1 dX0_giveUpFirst_49 (by decide) ?_
          have hl : lv_has ls 4 [(0, .ref (q 0)), (1, .int sp), (2, .int (nI (k + 1)))] := lv_sub hl [2, 3, 0] rfl
          exact ih d' (by omega) (k + 1) ls _ _ hz (by omega) (by rw [key, hs_lf, if_neg (fun z => by rw [c3] at z; exact absurd z.2.1 (by decide))]) hl
        · skip
          rw [bI_0] at c3
          refine lv_aload_n C0.1.1 C0.1.2.1 dX0_giveUpFirst_31 rfl (lv_at hl 1 rfl) ?_
          refine lv_iload_n C0.1.1 C0.1.2.1 dX0_giveUpFirst_32 rfl (lv_at hl 0 rfl) ?_
          refine gs_callVi (w := xw G q) (wr := []) C0.1 (k_isMovable l G q r (hg_at (hs_R S) k) hat.1) (cwV 1 C0.1.2.2.2.2 gX0_giveUpFirst_X0_isMovable rfl rfl rfl (by decide +kernel) ⟨Nat.le_of_ble_eq_true rfl, Nat.le_of_ble_eq_true rfl⟩) (ci := 0) rfl rfl rfl (gs_nil hz) rfl hl.1 rfl (Nat.le_of_ble_eq_true rfl) dX0_giveUpFirst_33 ⟨Nat.le_of_ble_eq_true rfl, Nat.le_of_ble_eq_true rfl⟩ (fun res u9 H locs hp9 hz => ?_)
          replace hz := gs_unnil hz
          rw [hp9.1] at hz
          refine gs_eq (y := bI (hs_mv S (hg_at (hs_R S) k))) (by rw [hp9.2, hfl.1, hfl.2.1]; unfold hs_mv; cases hs_f S (hg_at (hs_R S) k) <;> cases hs_l S (hg_at (hs_R S) k) <;> rfl) ?_
          clear hp9
          refine lv_if_eq (tgt := 46) C0.1.1 C0.1.2.1 dX0_giveUpFirst_36 (by decide) (fun c4 => ?_) (fun c4 => ?_)
          · skip
            rw [bI_0] at c4
            refine lv_iinc (v := nI (k + 1)) (lv' := [(2, .int (nI (k + 1))), (3, .int (nI (hg_at (hs_R S) k))), (0, .ref (q 0)), (1, .int sp)]) C0.1.1 C0.1.2.1 dX0_giveUpFirst_46 hl (k := 3) rfl (nI_1 k) (by decide) rfl (fun ls hl => ?_)
            refine lv_goto (tgt := 2) C0.1.1 C0.1.2.1 dX0_giveUpFirst_49 (by decide) ?_
            have hl : lv_has ls 4 [(0, .ref (q 0)), (1, .int sp), (2, .int (nI (k + 1)))] := lv_sub hl [2, 3, 0] rfl
            exact ih d' (by omega) (k + 1) ls _ _ hz (by omega) (by rw [key, hs_lf, if_neg (fun z => by rw [c4] at z; exact absurd z.2.2 (by decide))]) hl
          · skip
            rw [bI_0] at c4
            have e1 : hs_l1 S but = some (hg_at (hs_R S) k) := by rw [key, hs_lf, if_pos ⟨c2, by simpa using c3, by simpa using c4⟩]
            refine lv_aload_n C0.1.1 C0.1.2.1 dX0_giveUpFirst_39 rfl (lv_at hl 1 rfl) ?_
            refine lv_iload_n C0.1.1 C0.1.2.1 dX0_giveUpFirst_40 rfl (lv_at hl 0 rfl) ?_
            refine gs_callVv (w := xw G q) (wr := []) C0.1 (k_giveUp l G q r S hS hJ (hg_at (hs_R S) k) hat.1) (cwV 1 C0.1.2.2.2.2 gX0_giveUpFirst_X0_giveUp rfl rfl rfl (by decide +kernel) ⟨Nat.le_of_ble_eq_true rfl, Nat.le_of_ble_eq_true rfl⟩) (ci := 0) rfl rfl rfl (gs_nil hz) rfl hl.1 rfl (Nat.le_of_ble_eq_true rfl) dX0_giveUpFirst_41 ⟨Nat.le_of_ble_eq_true rfl, Nat.le_of_ble_eq_true rfl⟩ (fun u H locs hp hz => ?_)
            replace hz := gs_unnil hz
            refine lv_iconst (v := nI 1) C0.1.1 C0.1.2.1 dX0_giveUpFirst_44 (by decide) ?_
            exact gs_retz u C0 hz (by decide) (by rw [e1]; exact ⟨rfl, hp⟩) (Nat.le_of_ble_eq_true rfl) (Nat.le_of_ble_eq_true rfl) dX0_giveUpFirst_45
set_option maxHeartbeats 4000000 in
set_option maxRecDepth 100000 in
/-- slideTogether -/
theorem k_slideTogether (l : Launch) (G : gs_G) (q : Nat → Nat) (r : xr) (S : hs_S) (hS : rx S r) (hI : hs_I S) : gm_v l yX0_slideTogether wsX0_slideTogether (gm_rm 3 0 0) G (xw G q) r [.ref (q 0)] (fun u => rx (hs_sl S) u) 0 0 := by
  refine gm_v.of (cc := cX0_slideTogether) (nL := 4) (ret := none) (by decide +kernel) rfl (Nat.le_of_ble_eq_true rfl) ?_
  intro p e s m args below meth c ls C0 hz hl
  have hin : ∀ w ∈ wsX00, w ∈ wsX0_slideTogether := by decide +kernel
  have l_nb : Cond.fieldLink RX0 38 "HandleHeap" "blocks" "I" ∈ wsX0_slideTogether := by decide +kernel
  have l_rw : Cond.fieldLink RX0 35 "HandleHeap" "row" "[I" ∈ wsX0_slideTogether := by decide +kernel
  have hl : lv_has ls 4 [(0, .ref (q 0))] := hl
  have hlen := hI.J.len
  refine lv_iconst (v := nI 0) C0.1.1 C0.1.2.1 dX0_slideTogether_0 (by decide) ?_
  refine lv_istore_n (lv' := [(1, .int (nI 0)), (0, .ref (q 0))]) C0.1.1 C0.1.2.1 dX0_slideTogether_1 rfl hl (by decide) rfl (fun ls hl => ?_)
  refine lv_iconst (v := nI 0) C0.1.1 C0.1.2.1 dX0_slideTogether_2 (by decide) ?_
  refine lv_istore_n (lv' := [(2, .int (nI 0)), (1, .int (nI 0)), (0, .ref (q 0))]) C0.1.1 C0.1.2.1 dX0_slideTogether_3 rfl hl (by decide) rfl (fun ls hl => ?_)
  have hl : lv_has ls 4 [(0, .ref (q 0)), (1, .int (nI 0)), (2, .int (nI 0))] := lv_sub hl [2, 1, 0] rfl
  refine (?loop : ∀ (d k : Nat) (rk : xr) (ls : Array Slot) (H : Heap) (locs : List Loc), gs_Z G (xw G q rk) _ s H locs → k + d = (hs_R S).length → rx (hs_slk S k) rk → lv_has ls 4 [(0, .ref (q 0)), (1, .int (nI (hs_gb (hs_slk S k) k))), (2, .int (nI k))] → W p l e _ s m args below meth c H locs 0 0 _ (F0 m 4 ls [])) _ 0 r ls _ _ hz (Nat.zero_add _) hS hl
  intro d
  induction d using Nat.strongRecOn with
  | _ d ih =>
    intro k rk ls H locs hz hd hu hl
    have hIk : hs_I (hs_slk S k) := hs_slk_I hI (by omega)
    refine lv_iload_n C0.1.1 C0.1.2.1 dX0_slideTogether_4 rfl (lv_at hl 2 rfl) ?_
    refine lv_aload_n C0.1.1 C0.1.2.1 dX0_slideTogether_5 rfl (lv_at hl 0 rfl) ?_
    refine xg_nb C0 hin hz l_nb dX0_slideTogether_6 ?_
    refine gs_eq (y := nI ((hs_R S).length)) (hu.2.2.2.1.1) ?_
    refine lv_icmp_ge (tgt := 45) C0.1.1 C0.1.2.1 dX0_slideTogether_9 (by decide) (fun c1 => ?_) (fun c1 => ?_)
    · rw [nI_leI (by omega) (by omega)] at c1
      obtain rfl : k = (hs_R S).length := by omega
      exact gs_retv rk C0 hz (hu) (Nat.le_of_ble_eq_true rfl) (Nat.le_of_ble_eq_true rfl) dX0_slideTogether_45
    · rw [nI_leI (by omega) (by omega)] at c1
      have hk1 : k < (hs_R S).length := by omega
      have hat := hIk.J.at (k := k) hk1
      have hat1 : hg_at (hs_R S) k < 48 := hat.1
      have hat2 : hs_u S (hg_at (hs_R S) k) = 2 := hat.2
      have hfl := hu.2.2.1 _ hat1 hat2
      have hgb : hs_gb (hs_slk S k) k ≤ 1024 := hg_gble hIk.1 (by show k ≤ (hs_R S).length; omega)
      have hend : hs_b (hs_slk S k) (hg_at (hs_R S) k) + hs_n (hs_slk S k) (hg_at (hs_R S) k) ≤ 1024 := hIk.J.ge (k := k) hk1
      have hlo : hs_gb (hs_slk S k) k ≤ hs_b (hs_slk S k) (hg_at (hs_R S) k) := hg_lo hIk.1 (k := k) hk1
      have hbg : x_bg rk (hg_at (hs_R S) k) = nI (hs_b (hs_slk S k) (hg_at (hs_R S) k)) := (hu.1 _ hat1).trans (xb_2 hat2)
      have hln : x_ln rk (hg_at (hs_R S) k) = nI (hs_n (hs_slk S k) (hg_at (hs_R S) k)) := hu.2.1 _ hat1
      have hgo := rx_go hu hat1 hat2 (hs_sl_d hIk (k := k) hk1)
      have hst := hs_slk_s hI hk1
      refine lv_aload_n C0.1.1 C0.1.2.1 dX0_slideTogether_12 rfl (lv_at hl 0 rfl) ?_
      refine xg_rw C0 hin hz l_rw dX0_slideTogether_13 ?_
      refine lv_iload_n C0.1.1 C0.1.2.1 dX0_slideTogether_16 rfl (lv_at hl 2 rfl) ?_
      refine xl_rw C0 hz k (by omega) rfl dX0_slideTogether_17 ?_
      refine gs_eq (y := nI (hg_at (hs_R S) k)) (hu.2.2.2.1.2 _ hk1) ?_
      refine lv_istore_n (lv' := [(3, .int (nI (hg_at (hs_R S) k))), (0, .ref (q 0)), (1, .int (nI (hs_gb (hs_slk S k) k))), (2, .int (nI k))]) C0.1.1 C0.1.2.1 dX0_slideTogether_18 rfl hl (by decide) rfl (fun ls hl => ?_)
      refine lv_aload_n C0.1.1 C0.1.2.1 dX0_slideTogether_19 rfl (lv_at hl 1 rfl) ?_
      refine lv_iload_n C0.1.1 C0.1.2.1 dX0_slideTogether_20 rfl (lv_at hl 0 rfl) ?_
      refine gs_callVi (w := xw G q) (wr := []) C0.1 (k_isMovable l G q rk (hg_at (hs_R S) k) hat1) (cwV 1 C0.1.2.2.2.2 gX0_slideTogether_X0_isMovable rfl rfl rfl (by decide +kernel) ⟨Nat.le_of_ble_eq_true rfl, Nat.le_of_ble_eq_true rfl⟩) (ci := 0) rfl rfl rfl (gs_nil hz) rfl hl.1 rfl (Nat.le_of_ble_eq_true rfl) dX0_slideTogether_21 ⟨Nat.le_of_ble_eq_true rfl, Nat.le_of_ble_eq_true rfl⟩ (fun res u9 H locs hp9 hz => ?_)
      replace hz := gs_unnil hz
      rw [hp9.1] at hz
      refine gs_eq (y := bI (hs_mv S (hg_at (hs_R S) k))) (by rw [hp9.2, hfl.1, hfl.2.1]; unfold hs_mv; show _ = bI (!hs_f S (hg_at (hs_R S) k) && !hs_l S (hg_at (hs_R S) k)); show bI (decide (bI (hs_f S (hg_at (hs_R S) k)) = 0) && decide (bI (hs_l S (hg_at (hs_R S) k)) = 0)) = _; cases hs_f S (hg_at (hs_R S) k) <;> cases hs_l S (hg_at (hs_R S) k) <;> rfl) ?_
      clear hp9
      refine lv_if_eq (tgt := 33) C0.1.1 C0.1.2.1 dX0_slideTogether_24 (by decide) (fun c2 => ?_) (fun c2 => ?_)
      · skip
        rw [bI_0] at c2
        have hst2 : hs_slk S (k + 1) = hs_slk S k := by rw [hst, if_neg (by rw [c2]; decide)]
        refine lv_aload_n C0.1.1 C0.1.2.1 dX0_slideTogether_33 rfl (lv_at hl 1 rfl) ?_
        refine lv_iload_n C0.1.1 C0.1.2.1 dX0_slideTogether_34 rfl (lv_at hl 0 rfl) ?_
        refine gs_callVi (w := xw G q) (wr := []) C0.1 (k_endOf l G q rk (hg_at (hs_R S) k) hat1) (cwV 1 C0.1.2.2.2.2 gX0_slideTogether_X0_endOf rfl rfl rfl (by decide +kernel) ⟨Nat.le_of_ble_eq_true rfl, Nat.le_of_ble_eq_true rfl⟩) (ci := 0) rfl rfl rfl (gs_nil hz) rfl hl.1 rfl (Nat.le_of_ble_eq_true rfl) dX0_slideTogether_35 ⟨Nat.le_of_ble_eq_true rfl, Nat.le_of_ble_eq_true rfl⟩ (fun res u9 H locs hp9 hz => ?_)
        replace hz := gs_unnil hz
        rw [hp9.1] at hz
        refine gs_eq (y := nI (hs_gb (hs_slk S (k + 1)) (k + 1))) (by rw [hp9.2, hbg, hln, nI_add, hst2]; rfl) ?_
        clear hp9
        refine lv_istore_n (lv' := [(1, .int (nI (hs_gb (hs_slk S (k + 1)) (k + 1)))), (3, .int (nI (hg_at (hs_R S) k))), (0, .ref (q 0)), (2, .int (nI k))]) C0.1.1 C0.1.2.1 dX0_slideTogether_38 rfl hl (by decide) rfl (fun ls hl => ?_)
        refine lv_iinc (v := nI (k + 1)) (lv' := [(2, .int (nI (k + 1))), (1, .int (nI (hs_gb (hs_slk S (k + 1)) (k + 1)))), (3, .int (nI (hg_at (hs_R S) k))), (0, .ref (q 0))]) C0.1.1 C0.1.2.1 dX0_slideTogether_39 hl (k := 3) rfl (nI_1 k) (by decide) rfl (fun ls hl => ?_)
        refine lv_goto (tgt := 4) C0.1.1 C0.1.2.1 dX0_slideTogether_42 (by decide) ?_
        have hl : lv_has ls 4 [(0, .ref (q 0)), (1, .int (nI (hs_gb (hs_slk S (k + 1)) (k + 1)))), (2, .int (nI (k + 1)))] := lv_sub hl [3, 1, 0] rfl
        exact ih (d - 1) (by omega) (k + 1) rk ls _ _ hz (by omega) (by rw [hst2]; exact hu) hl
      · skip
        rw [bI_0] at c2
        have hst2 : hs_slk S (k + 1) = hs_go (hs_slk S k) (hg_at (hs_R S) k) (hs_gb (hs_slk S k) k) := by rw [hst, if_pos (by simpa using c2)]
        refine lv_aload_n C0.1.1 C0.1.2.1 dX0_slideTogether_27 rfl (lv_at hl 1 rfl) ?_
        refine lv_iload_n C0.1.1 C0.1.2.1 dX0_slideTogether_28 rfl (lv_at hl 0 rfl) ?_
        refine lv_iload_n C0.1.1 C0.1.2.1 dX0_slideTogether_29 rfl (lv_at hl 2 rfl) ?_
        refine gs_callVv (w := xw G q) (wr := []) C0.1 (k_moveTo l G q rk (hg_at (hs_R S) k) _ _ _ hat1 hbg hln hend (Nat.le_trans (Nat.add_le_add_right hlo _) hend)) (cwV 2 C0.1.2.2.2.2 gX0_slideTogether_X0_moveTo rfl rfl rfl (by decide +kernel) ⟨Nat.le_of_ble_eq_true rfl, Nat.le_of_ble_eq_true rfl⟩) (ci := 0) rfl rfl rfl (gs_nil hz) rfl hl.1 rfl (Nat.le_of_ble_eq_true rfl) dX0_slideTogether_30 ⟨Nat.le_of_ble_eq_true rfl, Nat.le_of_ble_eq_true rfl⟩ (fun u H locs hp hz => ?_)
        replace hz := gs_unnil hz
        rw [hp] at hz
        obtain ⟨u2, eu2⟩ : ∃ z, z = (if hs_gb (hs_slk S k) k = hs_b (hs_slk S k) (hg_at (hs_R S) k) then rk else xs_mv (xs_bg (xs_hp rk (va_cpy (x_hp rk) (x_hp rk) (hs_b (hs_slk S k) (hg_at (hs_R S) k)) (hs_gb (hs_slk S k) k) (hs_n (hs_slk S k) (hg_at (hs_R S) k)))) (upd (x_bg rk) (hg_at (hs_R S) k) (nI (hs_gb (hs_slk S k) k)))) (x_mv rk + nI (hs_n (hs_slk S k) (hg_at (hs_R S) k)))) := ⟨_, rfl⟩
        rw [← eu2] at hz
        have hu2 : rx (hs_slk S (k + 1)) u2 := by rw [hst2, eu2]; exact hgo
        clear hp
        have hbg2 : x_bg u2 (hg_at (hs_R S) k) = nI (hs_b (hs_slk S (k + 1)) (hg_at (hs_R S) k)) := (hu2.1 _ hat1).trans (xb_2 hat2)
        have hln2 : x_ln u2 (hg_at (hs_R S) k) = nI (hs_n (hs_slk S (k + 1)) (hg_at (hs_R S) k)) := hu2.2.1 _ hat1
        refine lv_aload_n C0.1.1 C0.1.2.1 dX0_slideTogether_33 rfl (lv_at hl 1 rfl) ?_
        refine lv_iload_n C0.1.1 C0.1.2.1 dX0_slideTogether_34 rfl (lv_at hl 0 rfl) ?_
        refine gs_callVi (w := xw G q) (wr := []) C0.1 (k_endOf l G q u2 (hg_at (hs_R S) k) hat1) (cwV 1 C0.1.2.2.2.2 gX0_slideTogether_X0_endOf rfl rfl rfl (by decide +kernel) ⟨Nat.le_of_ble_eq_true rfl, Nat.le_of_ble_eq_true rfl⟩) (ci := 0) rfl rfl rfl (gs_nil hz) rfl hl.1 rfl (Nat.le_of_ble_eq_true rfl) dX0_slideTogether_35 ⟨Nat.le_of_ble_eq_true rfl, Nat.le_of_ble_eq_true rfl⟩ (fun res u9 H locs hp9 hz => ?_)
        replace hz := gs_unnil hz
        rw [hp9.1] at hz
        refine gs_eq (y := nI (hs_gb (hs_slk S (k + 1)) (k + 1))) (by rw [hp9.2, hbg2, hln2, nI_add]; rfl) ?_
        clear hp9
        refine lv_istore_n (lv' := [(1, .int (nI (hs_gb (hs_slk S (k + 1)) (k + 1)))), (3, .int (nI (hg_at (hs_R S) k))), (0, .ref (q 0)), (2, .int (nI k))]) C0.1.1 C0.1.2.1 dX0_slideTogether_38 rfl hl (by decide) rfl (fun ls hl => ?_)
        refine lv_iinc (v := nI (k + 1)) (lv' := [(2, .int (nI (k + 1))), (1, .int (nI (hs_gb (hs_slk S (k + 1)) (k + 1)))), (3, .int (nI (hg_at (hs_R S) k))), (0, .ref (q 0))]) C0.1.1 C0.1.2.1 dX0_slideTogether_39 hl (k := 3) rfl (nI_1 k) (by decide) rfl (fun ls hl => ?_)
        refine lv_goto (tgt := 4) C0.1.1 C0.1.2.1 dX0_slideTogether_42 (by decide) ?_
        have hl : lv_has ls 4 [(0, .ref (q 0)), (1, .int (nI (hs_gb (hs_slk S (k + 1)) (k + 1)))), (2, .int (nI (k + 1)))] := lv_sub hl [3, 1, 0] rfl
        exact ih (d - 1) (by omega) (k + 1) u2 ls _ _ hz (by omega) hu2 hl
