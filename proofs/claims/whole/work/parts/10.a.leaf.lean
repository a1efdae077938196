/-! HandleHeap, the readers -/
set_option maxHeartbeats 4000000 in
set_option maxRecDepth 100000 in
/-- endOf: where a handle's block begins and how many bytes it has, added -/
theorem k_endOf (l : Launch) (G : gs_G) (q : Nat → Nat) (r : xr) (h : Nat) (hh : h < 48) : gm_i l yX0_endOf wsX0_endOf (gm_rm 1 0 0) G (xw G q) r [.ref (q 0), .int (nI h)] (fun res u => u = r ∧ res = x_bg r h + x_ln r h) 0 0 := by
  refine gm_i.of (cc := cX0_endOf) (nL := 2) (ret := (some .int)) (by decide +kernel) rfl (Nat.le_of_ble_eq_true rfl) ?_
  intro p e s m args below meth c ls C0 hz hl
  have hin : ∀ w ∈ wsX00, w ∈ wsX0_endOf := by decide +kernel
  have l_bg : Cond.fieldLink RX0 13 "HandleHeap" "begin" "[I" ∈ wsX0_endOf := by decide +kernel
  have l_ln : Cond.fieldLink RX0 22 "HandleHeap" "length" "[I" ∈ wsX0_endOf := by decide +kernel
  have hl : lv_has ls 2 [(0, .ref (q 0)), (1, .int (nI h))] := hl
  refine lv_aload_n C0.1.1 C0.1.2.1 dX0_endOf_0 rfl (lv_at hl 0 rfl) ?_
  refine xg_bg C0 hin hz l_bg dX0_endOf_1 ?_
  refine lv_iload_n C0.1.1 C0.1.2.1 dX0_endOf_4 rfl (lv_at hl 1 rfl) ?_
  refine xl_bg C0 hz h (by omega) rfl dX0_endOf_5 ?_
  refine lv_aload_n C0.1.1 C0.1.2.1 dX0_endOf_6 rfl (lv_at hl 0 rfl) ?_
  refine xg_ln C0 hin hz l_ln dX0_endOf_7 ?_
  refine lv_iload_n C0.1.1 C0.1.2.1 dX0_endOf_10 rfl (lv_at hl 1 rfl) ?_
  refine xl_ln C0 hz h (by omega) rfl dX0_endOf_11 ?_
  refine lv_iadd C0.1.1 C0.1.2.1 dX0_endOf_12 ?_
  exact gs_reti r C0 hz (⟨rfl, rfl⟩) (Nat.le_of_ble_eq_true rfl) (Nat.le_of_ble_eq_true rfl) dX0_endOf_13
set_option maxHeartbeats 4000000 in
set_option maxRecDepth 100000 in
/-- isMovable -/
theorem k_isMovable (l : Launch) (G : gs_G) (q : Nat → Nat) (r : xr) (h : Nat) (hh : h < 48) : gm_i l yX0_isMovable wsX0_isMovable (gm_rm 1 0 0) G (xw G q) r [.ref (q 0), .int (nI h)] (fun res u => u = r ∧ res = bI (decide (x_fx r h = 0) && decide (x_lk r h = 0))) 0 0 := by
  refine gm_i.of (cc := cX0_isMovable) (nL := 2) (ret := (some .boolean)) (by decide +kernel) rfl (Nat.le_of_ble_eq_true rfl) ?_
  intro p e s m args below meth c ls C0 hz hl
  have hin : ∀ w ∈ wsX00, w ∈ wsX0_isMovable := by decide +kernel
  have l_fx : Cond.fieldLink RX0 25 "HandleHeap" "isFixed" "[Z" ∈ wsX0_isMovable := by decide +kernel
  have l_lk : Cond.fieldLink RX0 29 "HandleHeap" "isLocked" "[Z" ∈ wsX0_isMovable := by decide +kernel
  have hl : lv_has ls 2 [(0, .ref (q 0)), (1, .int (nI h))] := hl
  refine lv_aload_n C0.1.1 C0.1.2.1 dX0_isMovable_0 rfl (lv_at hl 0 rfl) ?_
  refine xg_fx C0 hin hz l_fx dX0_isMovable_1 ?_
  refine lv_iload_n C0.1.1 C0.1.2.1 dX0_isMovable_4 rfl (lv_at hl 1 rfl) ?_
  refine xl_fx C0 hz h (by omega) rfl dX0_isMovable_5 ?_
  refine lv_if_ne (tgt := 22) C0.1.1 C0.1.2.1 dX0_isMovable_6 (by decide) (fun c1 => ?_) (fun c1 => ?_)
  · skip
    refine lv_iconst (v := nI 0) C0.1.1 C0.1.2.1 dX0_isMovable_22 (by decide) ?_
    exact gs_retz r C0 hz (by decide) (⟨rfl, by rw [decide_eq_false c1]; rfl⟩) (Nat.le_of_ble_eq_true rfl) (Nat.le_of_ble_eq_true rfl) dX0_isMovable_23
  · skip
    refine lv_aload_n C0.1.1 C0.1.2.1 dX0_isMovable_9 rfl (lv_at hl 0 rfl) ?_
    refine xg_lk C0 hin hz l_lk dX0_isMovable_10 ?_
    refine lv_iload_n C0.1.1 C0.1.2.1 dX0_isMovable_13 rfl (lv_at hl 1 rfl) ?_
    refine xl_lk C0 hz h (by omega) rfl dX0_isMovable_14 ?_
    refine lv_if_ne (tgt := 22) C0.1.1 C0.1.2.1 dX0_isMovable_15 (by decide) (fun c2 => ?_) (fun c2 => ?_)
    · skip
      refine lv_iconst (v := nI 0) C0.1.1 C0.1.2.1 dX0_isMovable_22 (by decide) ?_
      exact gs_retz r C0 hz (by decide) (⟨rfl, by rw [decide_eq_false c2, Bool.and_false]; rfl⟩) (Nat.le_of_ble_eq_true rfl) (Nat.le_of_ble_eq_true rfl) dX0_isMovable_23
    · skip
      refine lv_iconst (v := nI 1) C0.1.1 C0.1.2.1 dX0_isMovable_18 (by decide) ?_
      refine lv_goto (tgt := 23) C0.1.1 C0.1.2.1 dX0_isMovable_19 (by decide) ?_
      exact gs_retz r C0 hz (by decide) (⟨rfl, by rw [decide_eq_true c1, decide_eq_true c2]; rfl⟩) (Nat.le_of_ble_eq_true rfl) (Nat.le_of_ble_eq_true rfl) dX0_isMovable_23
set_option maxHeartbeats 4000000 in
set_option maxRecDepth 100000 in
/-- gapBegin -/
theorem k_gapBegin (l : Launch) (G : gs_G) (q : Nat → Nat) (r : xr) (S : hs_S) (hS : rx S r) (hJ : hs_J S) (k : Nat) (hk : k ≤ (hs_R S).length) : gm_i l yX0_gapBegin wsX0_gapBegin (gm_rm 2 0 0) G (xw G q) r [.ref (q 0), .int (nI k)] (fun res u => u = r ∧ res = nI (hs_gb S k)) 0 0 := by
  refine gm_i.of (cc := cX0_gapBegin) (nL := 2) (ret := (some .int)) (by decide +kernel) rfl (Nat.le_of_ble_eq_true rfl) ?_
  intro p e s m args below meth c ls C0 hz hl
  have hin : ∀ w ∈ wsX00, w ∈ wsX0_gapBegin := by decide +kernel
  have l_rw : Cond.fieldLink RX0 35 "HandleHeap" "row" "[I" ∈ wsX0_gapBegin := by decide +kernel
  have hl : lv_has ls 2 [(0, .ref (q 0)), (1, .int (nI k))] := hl
  have hlen := hJ.len
  refine lv_iload_n C0.1.1 C0.1.2.1 dX0_gapBegin_0 rfl (lv_at hl 1 rfl) ?_
  refine lv_if_ne (tgt := 8) C0.1.1 C0.1.2.1 dX0_gapBegin_1 (by decide) (fun c1 => ?_) (fun c1 => ?_)
  · rw [n0_eq (by omega)] at c1
    have hk1 : k - 1 < (hs_R S).length := by omega
    have hat := hJ.at hk1
    refine lv_aload_n C0.1.1 C0.1.2.1 dX0_gapBegin_8 rfl (lv_at hl 0 rfl) ?_
    refine lv_aload_n C0.1.1 C0.1.2.1 dX0_gapBegin_9 rfl (lv_at hl 0 rfl) ?_
    refine xg_rw C0 hin hz l_rw dX0_gapBegin_10 ?_
    refine lv_iload_n C0.1.1 C0.1.2.1 dX0_gapBegin_13 rfl (lv_at hl 1 rfl) ?_
    refine lv_iconst (v := nI 1) C0.1.1 C0.1.2.1 dX0_gapBegin_14 (by decide) ?_
    refine lv_isub C0.1.1 C0.1.2.1 dX0_gapBegin_15 ?_
    refine gs_eq (pk_sub (by omega)) ?_
    refine xl_rw C0 hz (k - 1) (by omega) rfl dX0_gapBegin_16 ?_
    refine gs_eq (y := nI (hg_at (hs_R S) (k - 1))) (hS.2.2.2.1.2 _ hk1) ?_
    refine gs_callVi (w := xw G q) (wr := []) C0.1 (k_endOf l G q r (hg_at (hs_R S) (k - 1)) hat.1) (cwV 1 C0.1.2.2.2.2 gX0_gapBegin_X0_endOf rfl rfl rfl (by decide +kernel) ⟨Nat.le_of_ble_eq_true rfl, Nat.le_of_ble_eq_true rfl⟩) (ci := 0) rfl rfl rfl (gs_nil hz) rfl hl.1 rfl (Nat.le_of_ble_eq_true rfl) dX0_gapBegin_17 ⟨Nat.le_of_ble_eq_true rfl, Nat.le_of_ble_eq_true rfl⟩ (fun res u9 H locs hp9 hz => ?_)
    replace hz := gs_unnil hz
    rw [hp9.1] at hz
    refine gs_eq (y := nI (hs_gb S k)) (by rw [hp9.2, hS.1 _ hat.1, hS.2.1 _ hat.1, xb_2 hat.2, nI_add]; unfold hs_gb hg_gb; rw [if_neg (by omega)]) ?_
    clear hp9
    exact gs_reti r C0 hz (⟨rfl, rfl⟩) (Nat.le_of_ble_eq_true rfl) (Nat.le_of_ble_eq_true rfl) dX0_gapBegin_20
  · rw [n0_eq (by omega)] at c1
    refine lv_iconst (v := nI 0) C0.1.1 C0.1.2.1 dX0_gapBegin_4 (by decide) ?_
    refine lv_goto (tgt := 20) C0.1.1 C0.1.2.1 dX0_gapBegin_5 (by decide) ?_
    exact gs_reti r C0 hz (⟨rfl, by rw [c1]; rfl⟩) (Nat.le_of_ble_eq_true rfl) (Nat.le_of_ble_eq_true rfl) dX0_gapBegin_20
set_option maxHeartbeats 4000000 in
set_option maxRecDepth 100000 in
/-- gapLength -/
theorem k_gapLength (l : Launch) (G : gs_G) (q : Nat → Nat) (r : xr) (S : hs_S) (hS : rx S r) (hJ : hs_J S) (k : Nat) (hk : k ≤ (hs_R S).length) : gm_i l yX0_gapLength wsX0_gapLength (gm_rm 3 0 0) G (xw G q) r [.ref (q 0), .int (nI k)] (fun res u => u = r ∧ res = nI (hs_gl S k)) 0 0 := by
  refine gm_i.of (cc := cX0_gapLength) (nL := 3) (ret := (some .int)) (by decide +kernel) rfl (Nat.le_of_ble_eq_true rfl) ?_
  intro p e s m args below meth c ls C0 hz hl
  have hin : ∀ w ∈ wsX00, w ∈ wsX0_gapLength := by decide +kernel
  have l_nb : Cond.fieldLink RX0 38 "HandleHeap" "blocks" "I" ∈ wsX0_gapLength := by decide +kernel
  have l_bg : Cond.fieldLink RX0 13 "HandleHeap" "begin" "[I" ∈ wsX0_gapLength := by decide +kernel
  have l_rw : Cond.fieldLink RX0 35 "HandleHeap" "row" "[I" ∈ wsX0_gapLength := by decide +kernel
  have hl : lv_has ls 3 [(0, .ref (q 0)), (1, .int (nI k))] := hl
  have hlen := hJ.len
  have hge : hg_gb (hs_R S) (hs_b S) (hs_n S) k ≤ hg_ge (hs_R S) (hs_b S) k := hJ.1.1 k hk
  have hge2 : hg_ge (hs_R S) (hs_b S) k ≤ 1024 := hg_gele hJ.1 hk
  have hgl : nI (hg_ge (hs_R S) (hs_b S) k) - nI (hs_gb S k) = nI (hs_gl S k) := pk_sub hge
  refine lv_iload_n C0.1.1 C0.1.2.1 dX0_gapLength_0 rfl (lv_at hl 1 rfl) ?_
  refine lv_aload_n C0.1.1 C0.1.2.1 dX0_gapLength_1 rfl (lv_at hl 0 rfl) ?_
  refine xg_nb C0 hin hz l_nb dX0_gapLength_2 ?_
  refine gs_eq (y := nI ((hs_R S).length)) (hS.2.2.2.1.1) ?_
  refine lv_icmp_ne (tgt := 14) C0.1.1 C0.1.2.1 dX0_gapLength_5 (by decide) (fun c1 => ?_) (fun c1 => ?_)
  · rw [nI_eq (by omega) (by omega)] at c1
    have hk1 : k < (hs_R S).length := by omega
    have hat := hJ.at hk1
    refine lv_aload_n C0.1.1 C0.1.2.1 dX0_gapLength_14 rfl (lv_at hl 0 rfl) ?_
    refine xg_bg C0 hin hz l_bg dX0_gapLength_15 ?_
    refine lv_aload_n C0.1.1 C0.1.2.1 dX0_gapLength_18 rfl (lv_at hl 0 rfl) ?_
    refine xg_rw C0 hin hz l_rw dX0_gapLength_19 ?_
    refine lv_iload_n C0.1.1 C0.1.2.1 dX0_gapLength_22 rfl (lv_at hl 1 rfl) ?_
    refine xl_rw C0 hz k (by omega) rfl dX0_gapLength_23 ?_
    refine gs_eq (y := nI (hg_at (hs_R S) k)) (hS.2.2.2.1.2 _ hk1) ?_
    refine xl_bg C0 hz (hg_at (hs_R S) k) (hat.1) rfl dX0_gapLength_24 ?_
    refine gs_eq (y := nI (hg_ge (hs_R S) (hs_b S) k)) (by rw [hS.1 _ hat.1, xb_2 hat.2, hg_gek hk1]) ?_
    refine lv_istore_n (lv' := [(2, .int (nI (hg_ge (hs_R S) (hs_b S) k))), (0, .ref (q 0)), (1, .int (nI k))]) C0.1.1 C0.1.2.1 dX0_gapLength_25 rfl hl (by decide) rfl (fun ls hl => ?_)
    refine lv_iload_n C0.1.1 C0.1.2.1 dX0_gapLength_26 rfl (lv_at hl 0 rfl) ?_
    refine lv_aload_n C0.1.1 C0.1.2.1 dX0_gapLength_27 rfl (lv_at hl 1 rfl) ?_
    refine lv_iload_n C0.1.1 C0.1.2.1 dX0_gapLength_28 rfl (lv_at hl 2 rfl) ?_
    refine gs_callVi (w := xw G q) (wr := []) C0.1 (k_gapBegin l G q r S hS hJ k hk) (cwV 1 C0.1.2.2.2.2 gX0_gapLength_X0_gapBegin rfl rfl rfl (by decide +kernel) ⟨Nat.le_of_ble_eq_true rfl, Nat.le_of_ble_eq_true rfl⟩) (ci := 0) rfl rfl rfl (gs_nil hz) rfl hl.1 rfl (Nat.le_of_ble_eq_true rfl) dX0_gapLength_29 ⟨Nat.le_of_ble_eq_true rfl, Nat.le_of_ble_eq_true rfl⟩ (fun res u9 H locs hp9 hz => ?_)
    replace hz := gs_unnil hz
    rw [hp9.1] at hz
    refine gs_eq (y := nI (hs_gb S k)) (hp9.2) ?_
    clear hp9
    refine lv_isub C0.1.1 C0.1.2.1 dX0_gapLength_32 ?_
    refine gs_eq (y := nI (hs_gl S k)) (hgl) ?_
    exact gs_reti r C0 hz (⟨rfl, rfl⟩) (Nat.le_of_ble_eq_true rfl) (Nat.le_of_ble_eq_true rfl) dX0_gapLength_33
  · rw [nI_eq (by omega) (by omega)] at c1
    refine lv_sipush (v := nI 1024) C0.1.1 C0.1.2.1 dX0_gapLength_8 (by decide) ?_
    refine lv_goto (tgt := 25) C0.1.1 C0.1.2.1 dX0_gapLength_11 (by decide) ?_
    refine gs_eq (y := nI (hg_ge (hs_R S) (hs_b S) k)) (by rw [c1, hg_geL]) ?_
    refine lv_istore_n (lv' := [(2, .int (nI (hg_ge (hs_R S) (hs_b S) k))), (0, .ref (q 0)), (1, .int (nI k))]) C0.1.1 C0.1.2.1 dX0_gapLength_25 rfl hl (by decide) rfl (fun ls hl => ?_)
    refine lv_iload_n C0.1.1 C0.1.2.1 dX0_gapLength_26 rfl (lv_at hl 0 rfl) ?_
    refine lv_aload_n C0.1.1 C0.1.2.1 dX0_gapLength_27 rfl (lv_at hl 1 rfl) ?_
    refine lv_iload_n C0.1.1 C0.1.2.1 dX0_gapLength_28 rfl (lv_at hl 2 rfl) ?_
    refine gs_callVi (w := xw G q) (wr := []) C0.1 (k_gapBegin l G q r S hS hJ k hk) (cwV 1 C0.1.2.2.2.2 gX0_gapLength_X0_gapBegin rfl rfl rfl (by decide +kernel) ⟨Nat.le_of_ble_eq_true rfl, Nat.le_of_ble_eq_true rfl⟩) (ci := 0) rfl rfl rfl (gs_nil hz) rfl hl.1 rfl (Nat.le_of_ble_eq_true rfl) dX0_gapLength_29 ⟨Nat.le_of_ble_eq_true rfl, Nat.le_of_ble_eq_true rfl⟩ (fun res u9 H locs hp9 hz => ?_)
    replace hz := gs_unnil hz
    rw [hp9.1] at hz
    refine gs_eq (y := nI (hs_gb S k)) (hp9.2) ?_
    clear hp9
    refine lv_isub C0.1.1 C0.1.2.1 dX0_gapLength_32 ?_
    refine gs_eq (y := nI (hs_gl S k)) (hgl) ?_
    exact gs_reti r C0 hz (⟨rfl, rfl⟩) (Nat.le_of_ble_eq_true rfl) (Nat.le_of_ble_eq_true rfl) dX0_gapLength_33
set_option maxHeartbeats 4000000 in
set_option maxRecDepth 100000 in
/-- firstGapOf -/
theorem k_firstGapOf (l : Launch) (G : gs_G) (q : Nat → Nat) (r : xr) (S : hs_S) (hS : rx S r) (hJ : hs_J S) (n : Nat) (hn : n ≤ 1024) : gm_i l yX0_firstGapOf wsX0_firstGapOf (gm_rm 4 0 0) G (xw G q) r [.ref (q 0), .int (nI n)] (fun res u => u = r ∧ res = oi (hs_pk S n)) 0 0 := by
  refine gm_i.of (cc := cX0_firstGapOf) (nL := 3) (ret := (some .int)) (by decide +kernel) rfl (Nat.le_of_ble_eq_true rfl) ?_
  intro p e s m args below meth c ls C0 hz hl
  have hin : ∀ w ∈ wsX00, w ∈ wsX0_firstGapOf := by decide +kernel
  have l_nb : Cond.fieldLink RX0 38 "HandleHeap" "blocks" "I" ∈ wsX0_firstGapOf := by decide +kernel
  have hl : lv_has ls 3 [(0, .ref (q 0)), (1, .int (nI n))] := hl
  have hlen := hJ.len
  refine lv_iconst (v := nI 0) C0.1.1 C0.1.2.1 dX0_firstGapOf_0 (by decide) ?_
  refine lv_istore_n (lv' := [(2, .int (nI 0)), (0, .ref (q 0)), (1, .int (nI n))]) C0.1.1 C0.1.2.1 dX0_firstGapOf_1 rfl hl (by decide) rfl (fun ls hl => ?_)
  have hl : lv_has ls 3 [(0, .ref (q 0)), (1, .int (nI n)), (2, .int (nI 0))] := lv_sub hl [1, 2, 0] rfl
  refine (?loop : ∀ (d k : Nat) (ls : Array Slot) (H : Heap) (locs : List Loc), gs_Z G (xw G q r) _ s H locs → k + d = (hs_R S).length + 1 → hs_pk S n = hs_fk S n d k → lv_has ls 3 [(0, .ref (q 0)), (1, .int (nI n)), (2, .int (nI k))] → W p l e _ s m args below meth c H locs 0 0 _ (F0 m 2 ls [])) _ 0 ls _ _ hz (Nat.zero_add _) rfl hl
  intro d
  induction d using Nat.strongRecOn with
  | _ d ih =>
    intro k ls H locs hz hd key hl
    refine lv_iload_n C0.1.1 C0.1.2.1 dX0_firstGapOf_2 rfl (lv_at hl 2 rfl) ?_
    refine lv_aload_n C0.1.1 C0.1.2.1 dX0_firstGapOf_3 rfl (lv_at hl 0 rfl) ?_
    refine xg_nb C0 hin hz l_nb dX0_firstGapOf_4 ?_
    refine gs_eq (y := nI ((hs_R S).length)) (hS.2.2.2.1.1) ?_
    refine lv_icmp_gt (tgt := 27) C0.1.1 C0.1.2.1 dX0_firstGapOf_7 (by decide) (fun c1 => ?_) (fun c1 => ?_)
    · rw [nI_ltI (by omega) (by omega)] at c1
      obtain rfl : d = 0 := by omega
      refine lv_iconst (v := (-1)) C0.1.1 C0.1.2.1 dX0_firstGapOf_27 (by decide) ?_
      exact gs_reti r C0 hz (⟨rfl, by rw [key]; rfl⟩) (Nat.le_of_ble_eq_true rfl) (Nat.le_of_ble_eq_true rfl) dX0_firstGapOf_28
    · rw [nI_ltI (by omega) (by omega)] at c1
      obtain ⟨d', rfl⟩ : ∃ d', d = d' + 1 := ⟨d - 1, by omega⟩
      have hk1 : k ≤ (hs_R S).length := by omega
      have hg1 : hs_gl S k ≤ 1024 := Nat.le_trans (Nat.sub_le _ _) (hg_gele hJ.1 hk1)
      refine lv_aload_n C0.1.1 C0.1.2.1 dX0_firstGapOf_10 rfl (lv_at hl 0 rfl) ?_
      refine lv_iload_n C0.1.1 C0.1.2.1 dX0_firstGapOf_11 rfl (lv_at hl 2 rfl) ?_
      refine gs_callVi (w := xw G q) (wr := []) C0.1 (k_gapLength l G q r S hS hJ k hk1) (cwV 1 C0.1.2.2.2.2 gX0_firstGapOf_X0_gapLength rfl rfl rfl (by decide +kernel) ⟨Nat.le_of_ble_eq_true rfl, Nat.le_of_ble_eq_true rfl⟩) (ci := 0) rfl rfl rfl (gs_nil hz) rfl hl.1 rfl (Nat.le_of_ble_eq_true rfl) dX0_firstGapOf_12 ⟨Nat.le_of_ble_eq_true rfl, Nat.le_of_ble_eq_true rfl⟩ (fun res u9 H locs hp9 hz => ?_)
      replace hz := gs_unnil hz
      rw [hp9.1] at hz
      refine gs_eq (y := nI (hs_gl S k)) (hp9.2) ?_
      clear hp9
      refine lv_iload_n C0.1.1 C0.1.2.1 dX0_firstGapOf_15 rfl (lv_at hl 1 rfl) ?_
      refine lv_icmp_lt (tgt := 21) C0.1.1 C0.1.2.1 dX0_firstGapOf_16 (by decide) (fun c2 => ?_) (fun c2 => ?_)
      · rw [nI_ltI (by omega) (by omega)] at c2
        refine lv_iinc (v := nI (k + 1)) (lv' := [(2, .int (nI (k + 1))), (0, .ref (q 0)), (1, .int (nI n))]) C0.1.1 C0.1.2.1 dX0_firstGapOf_21 hl (k := 2) rfl (nI_1 k) (by decide) rfl (fun ls hl => ?_)
        refine lv_goto (tgt := 2) C0.1.1 C0.1.2.1 dX0_firstGapOf_24 (by decide) ?_
        have hl : lv_has ls 3 [(0, .ref (q 0)), (1, .int (nI n)), (2, .int (nI (k + 1)))] := lv_sub hl [1, 2, 0] rfl
        exact ih d' (by omega) (k + 1) ls _ _ hz (by omega) (by rw [key, hs_fk, if_neg (by omega)]) hl
      · rw [nI_ltI (by omega) (by omega)] at c2
        refine lv_iload_n C0.1.1 C0.1.2.1 dX0_firstGapOf_19 rfl (lv_at hl 2 rfl) ?_
        exact gs_reti r C0 hz (⟨rfl, by rw [key, hs_fk, if_pos (by omega)]; rfl⟩) (Nat.le_of_ble_eq_true rfl) (Nat.le_of_ble_eq_true rfl) dX0_firstGapOf_20
set_option maxHeartbeats 4000000 in
set_option maxRecDepth 100000 in
/-- greatestGap -/
theorem k_greatestGap (l : Launch) (G : gs_G) (q : Nat → Nat) (r : xr) (S : hs_S) (hS : rx S r) (hJ : hs_J S) : gm_i l yX0_greatestGap wsX0_greatestGap (gm_rm 4 0 0) G (xw G q) r [.ref (q 0)] (fun res u => u = r ∧ res = nI (hs_gg S)) 0 0 := by
  refine gm_i.of (cc := cX0_greatestGap) (nL := 3) (ret := (some .int)) (by decide +kernel) rfl (Nat.le_of_ble_eq_true rfl) ?_
  intro p e s m args below meth c ls C0 hz hl
  have hin : ∀ w ∈ wsX00, w ∈ wsX0_greatestGap := by decide +kernel
  have l_nb : Cond.fieldLink RX0 38 "HandleHeap" "blocks" "I" ∈ wsX0_greatestGap := by decide +kernel
  have hl : lv_has ls 3 [(0, .ref (q 0))] := hl
  have hlen := hJ.len
  refine lv_iconst (v := nI 0) C0.1.1 C0.1.2.1 dX0_greatestGap_0 (by decide) ?_
  refine lv_istore_n (lv' := [(1, .int (nI 0)), (0, .ref (q 0))]) C0.1.1 C0.1.2.1 dX0_greatestGap_1 rfl hl (by decide) rfl (fun ls hl => ?_)
  refine lv_iconst (v := nI 0) C0.1.1 C0.1.2.1 dX0_greatestGap_2 (by decide) ?_
  refine lv_istore_n (lv' := [(2, .int (nI 0)), (1, .int (nI 0)), (0, .ref (q 0))]) C0.1.1 C0.1.2.1 dX0_greatestGap_3 rfl hl (by decide) rfl (fun ls hl => ?_)
  have hl : lv_has ls 3 [(0, .ref (q 0)), (1, .int (nI 0)), (2, .int (nI 0))] := lv_sub hl [2, 1, 0] rfl
  refine (?loop : ∀ (d k : Nat) (ls : Array Slot) (H : Heap) (locs : List Loc), gs_Z G (xw G q r) _ s H locs → k + d = (hs_R S).length + 1 → lv_has ls 3 [(0, .ref (q 0)), (1, .int (nI (hs_mx S k))), (2, .int (nI k))] → W p l e _ s m args below meth c H locs 0 0 _ (F0 m 4 ls [])) _ 0 ls _ _ hz (Nat.zero_add _) hl
  intro d
  induction d using Nat.strongRecOn with
  | _ d ih =>
    intro k ls H locs hz hd hl
    refine lv_iload_n C0.1.1 C0.1.2.1 dX0_greatestGap_4 rfl (lv_at hl 2 rfl) ?_
    refine lv_aload_n C0.1.1 C0.1.2.1 dX0_greatestGap_5 rfl (lv_at hl 0 rfl) ?_
    refine xg_nb C0 hin hz l_nb dX0_greatestGap_6 ?_
    refine gs_eq (y := nI ((hs_R S).length)) (hS.2.2.2.1.1) ?_
    refine lv_icmp_gt (tgt := 28) C0.1.1 C0.1.2.1 dX0_greatestGap_9 (by decide) (fun c1 => ?_) (fun c1 => ?_)
    · rw [nI_ltI (by omega) (by omega)] at c1
      obtain rfl : k = (hs_R S).length + 1 := by omega
      refine lv_iload_n C0.1.1 C0.1.2.1 dX0_greatestGap_28 rfl (lv_at hl 1 rfl) ?_
      exact gs_reti r C0 hz (⟨rfl, rfl⟩) (Nat.le_of_ble_eq_true rfl) (Nat.le_of_ble_eq_true rfl) dX0_greatestGap_29
    · rw [nI_ltI (by omega) (by omega)] at c1
      have hk1 : k ≤ (hs_R S).length := by omega
      have hm1 : hs_mx S k ≤ 1024 := hs_mx_le hJ k (by omega)
      have hg1 : hs_gl S k ≤ 1024 := Nat.le_trans (Nat.sub_le _ _) (hg_gele hJ.1 hk1)
      refine lv_iload_n C0.1.1 C0.1.2.1 dX0_greatestGap_12 rfl (lv_at hl 1 rfl) ?_
      refine lv_aload_n C0.1.1 C0.1.2.1 dX0_greatestGap_13 rfl (lv_at hl 0 rfl) ?_
      refine lv_iload_n C0.1.1 C0.1.2.1 dX0_greatestGap_14 rfl (lv_at hl 2 rfl) ?_
      refine gs_callVi (w := xw G q) (wr := []) C0.1 (k_gapLength l G q r S hS hJ k hk1) (cwV 1 C0.1.2.2.2.2 gX0_greatestGap_X0_gapLength rfl rfl rfl (by decide +kernel) ⟨Nat.le_of_ble_eq_true rfl, Nat.le_of_ble_eq_true rfl⟩) (ci := 0) rfl rfl rfl (gs_nil hz) rfl hl.1 rfl (Nat.le_of_ble_eq_true rfl) dX0_greatestGap_15 ⟨Nat.le_of_ble_eq_true rfl, Nat.le_of_ble_eq_true rfl⟩ (fun res u9 H locs hp9 hz => ?_)
      replace hz := gs_unnil hz
      rw [hp9.1] at hz
      refine gs_eq (y := nI (hs_gl S k)) (hp9.2) ?_
      clear hp9
      refine va_mmax C0.1.1 C0.1.2.1 (by rw [C0.1.2.2.1]; exact hl.1.symm) C0.1.2.2.2.1 (C0.1.2.2.2.2 (.methodLink RX0 153 Lib.Math.max.name) (by decide +kernel)) (C0.1.2.2.2.2 (.static Lib.Math.max.name) (by decide +kernel)) (C0.1.2.2.2.2 (.initialized "java/lang/Math") (by decide +kernel)) (C0.1.2.2.2.2 (.code Lib.Math.max.name Lib.Math.max.code 2 (some .int)) (List.mem_of_getElem? (i := 5) rfl)) (Nat.le_of_ble_eq_true rfl) (Nat.le_of_ble_eq_true rfl) (Nat.le_of_ble_eq_true rfl) (Nat.le_of_ble_eq_true rfl) dX0_greatestGap_18 ?_
      refine gs_eq (y := nI (hs_mx S (k + 1))) (hs_mx_st (by omega) (by omega)) ?_
      refine lv_istore_n (lv' := [(1, .int (nI (hs_mx S (k + 1)))), (0, .ref (q 0)), (2, .int (nI k))]) C0.1.1 C0.1.2.1 dX0_greatestGap_21 rfl hl (by decide) rfl (fun ls hl => ?_)
      refine lv_iinc (v := nI (k + 1)) (lv' := [(2, .int (nI (k + 1))), (1, .int (nI (hs_mx S (k + 1)))), (0, .ref (q 0))]) C0.1.1 C0.1.2.1 dX0_greatestGap_22 hl (k := 2) rfl (nI_1 k) (by decide) rfl (fun ls hl => ?_)
      refine lv_goto (tgt := 4) C0.1.1 C0.1.2.1 dX0_greatestGap_25 (by decide) ?_
      have hl : lv_has ls 3 [(0, .ref (q 0)), (1, .int (nI (hs_mx S (k + 1)))), (2, .int (nI (k + 1)))] := lv_sub hl [2, 1, 0] rfl
      exact ih (d - 1) (by omega) (k + 1) ls _ _ hz (by omega) hl
set_option maxHeartbeats 4000000 in
set_option maxRecDepth 100000 in
/-- countGaps -/
theorem k_countGaps (l : Launch) (G : gs_G) (q : Nat → Nat) (r : xr) (S : hs_S) (hS : rx S r) (hJ : hs_J S) : gm_i l yX0_countGaps wsX0_countGaps (gm_rm 4 0 0) G (xw G q) r [.ref (q 0)] (fun res u => u = r ∧ res = nI (hs_ct S ((hs_R S).length + 1))) 0 0 := by
  refine gm_i.of (cc := cX0_countGaps) (nL := 3) (ret := (some .int)) (by decide +kernel) rfl (Nat.le_of_ble_eq_true rfl) ?_
  intro p e s m args below meth c ls C0 hz hl
  have hin : ∀ w ∈ wsX00, w ∈ wsX0_countGaps := by decide +kernel
  have l_nb : Cond.fieldLink RX0 38 "HandleHeap" "blocks" "I" ∈ wsX0_countGaps := by decide +kernel
  have hl : lv_has ls 3 [(0, .ref (q 0))] := hl
  have hlen := hJ.len
  refine lv_iconst (v := nI 0) C0.1.1 C0.1.2.1 dX0_countGaps_0 (by decide) ?_
  refine lv_istore_n (lv' := [(1, .int (nI 0)), (0, .ref (q 0))]) C0.1.1 C0.1.2.1 dX0_countGaps_1 rfl hl (by decide) rfl (fun ls hl => ?_)
  refine lv_iconst (v := nI 0) C0.1.1 C0.1.2.1 dX0_countGaps_2 (by decide) ?_
  refine lv_istore_n (lv' := [(2, .int (nI 0)), (1, .int (nI 0)), (0, .ref (q 0))]) C0.1.1 C0.1.2.1 dX0_countGaps_3 rfl hl (by decide) rfl (fun ls hl => ?_)
  have hl : lv_has ls 3 [(0, .ref (q 0)), (1, .int (nI 0)), (2, .int (nI 0))] := lv_sub hl [2, 1, 0] rfl
  refine (?loop : ∀ (d k : Nat) (ls : Array Slot) (H : Heap) (locs : List Loc), gs_Z G (xw G q r) _ s H locs → k + d = (hs_R S).length + 1 → lv_has ls 3 [(0, .ref (q 0)), (1, .int (nI (hs_ct S k))), (2, .int (nI k))] → W p l e _ s m args below meth c H locs 0 0 _ (F0 m 4 ls [])) _ 0 ls _ _ hz (Nat.zero_add _) hl
  intro d
  induction d using Nat.strongRecOn with
  | _ d ih =>
    intro k ls H locs hz hd hl
    refine lv_iload_n C0.1.1 C0.1.2.1 dX0_countGaps_4 rfl (lv_at hl 2 rfl) ?_
    refine lv_aload_n C0.1.1 C0.1.2.1 dX0_countGaps_5 rfl (lv_at hl 0 rfl) ?_
    refine xg_nb C0 hin hz l_nb dX0_countGaps_6 ?_
    refine gs_eq (y := nI ((hs_R S).length)) (hS.2.2.2.1.1) ?_
    refine lv_icmp_gt (tgt := 29) C0.1.1 C0.1.2.1 dX0_countGaps_9 (by decide) (fun c1 => ?_) (fun c1 => ?_)
    · rw [nI_ltI (by omega) (by omega)] at c1
      obtain rfl : k = (hs_R S).length + 1 := by omega
      refine lv_iload_n C0.1.1 C0.1.2.1 dX0_countGaps_29 rfl (lv_at hl 1 rfl) ?_
      exact gs_reti r C0 hz (⟨rfl, rfl⟩) (Nat.le_of_ble_eq_true rfl) (Nat.le_of_ble_eq_true rfl) dX0_countGaps_30
    · rw [nI_ltI (by omega) (by omega)] at c1
      have hk1 : k ≤ (hs_R S).length := by omega
      have hg1 : hs_gl S k ≤ 1024 := Nat.le_trans (Nat.sub_le _ _) (hg_gele hJ.1 hk1)
      refine lv_aload_n C0.1.1 C0.1.2.1 dX0_countGaps_12 rfl (lv_at hl 0 rfl) ?_
      refine lv_iload_n C0.1.1 C0.1.2.1 dX0_countGaps_13 rfl (lv_at hl 2 rfl) ?_
      refine gs_callVi (w := xw G q) (wr := []) C0.1 (k_gapLength l G q r S hS hJ k hk1) (cwV 1 C0.1.2.2.2.2 gX0_countGaps_X0_gapLength rfl rfl rfl (by decide +kernel) ⟨Nat.le_of_ble_eq_true rfl, Nat.le_of_ble_eq_true rfl⟩) (ci := 0) rfl rfl rfl (gs_nil hz) rfl hl.1 rfl (Nat.le_of_ble_eq_true rfl) dX0_countGaps_14 ⟨Nat.le_of_ble_eq_true rfl, Nat.le_of_ble_eq_true rfl⟩ (fun res u9 H locs hp9 hz => ?_)
      replace hz := gs_unnil hz
      rw [hp9.1] at hz
      refine gs_eq (y := nI (hs_gl S k)) (hp9.2) ?_
      clear hp9
      refine lv_if_le (tgt := 23) C0.1.1 C0.1.2.1 dX0_countGaps_17 (by decide) (fun c2 => ?_) (fun c2 => ?_)
      · rw [n0_le (by omega)] at c2
        have hc : hs_ct S k = hs_ct S (k + 1) := by rw [hs_ct, if_neg (by omega)]
        rw [hc] at hl
        refine lv_iinc (v := nI (k + 1)) (lv' := [(2, .int (nI (k + 1))), (0, .ref (q 0)), (1, .int (nI (hs_ct S (k + 1))))]) C0.1.1 C0.1.2.1 dX0_countGaps_23 hl (k := 2) rfl (nI_1 k) (by decide) rfl (fun ls hl => ?_)
        refine lv_goto (tgt := 4) C0.1.1 C0.1.2.1 dX0_countGaps_26 (by decide) ?_
        have hl : lv_has ls 3 [(0, .ref (q 0)), (1, .int (nI (hs_ct S (k + 1)))), (2, .int (nI (k + 1)))] := lv_sub hl [1, 2, 0] rfl
        exact ih (d - 1) (by omega) (k + 1) ls _ _ hz (by omega) hl
      · rw [n0_le (by omega)] at c2
        have hc : hs_ct S k + 1 = hs_ct S (k + 1) := by rw [hs_ct, if_pos (by omega)]
        refine lv_iinc (v := nI ((hs_ct S k) + 1)) (lv' := [(1, .int (nI ((hs_ct S k) + 1))), (0, .ref (q 0)), (2, .int (nI k))]) C0.1.1 C0.1.2.1 dX0_countGaps_20 hl (k := 1) rfl (nI_1 (hs_ct S k)) (by decide) rfl (fun ls hl => ?_)
        refine lv_iinc (v := nI (k + 1)) (lv' := [(2, .int (nI (k + 1))), (1, .int (nI ((hs_ct S k) + 1))), (0, .ref (q 0))]) C0.1.1 C0.1.2.1 dX0_countGaps_23 hl (k := 2) rfl (nI_1 k) (by decide) rfl (fun ls hl => ?_)
        refine lv_goto (tgt := 4) C0.1.1 C0.1.2.1 dX0_countGaps_26 (by decide) ?_
        rw [hc] at hl
        have hl : lv_has ls 3 [(0, .ref (q 0)), (1, .int (nI (hs_ct S (k + 1)))), (2, .int (nI (k + 1)))] := lv_sub hl [2, 1, 0] rfl
        exact ih (d - 1) (by omega) (k + 1) ls _ _ hz (by omega) hl
set_option maxHeartbeats 4000000 in
set_option maxRecDepth 100000 in
/-- freeBytes -/
theorem k_freeBytes (l : Launch) (G : gs_G) (q : Nat → Nat) (r : xr) (S : hs_S) (hS : rx S r) (hJ : hs_J S) : gm_i l yX0_freeBytes wsX0_freeBytes (gm_rm 4 0 0) G (xw G q) r [.ref (q 0)] (fun res u => u = r ∧ res = nI (hs_sm S ((hs_R S).length + 1))) 0 0 := by
  refine gm_i.of (cc := cX0_freeBytes) (nL := 3) (ret := (some .int)) (by decide +kernel) rfl (Nat.le_of_ble_eq_true rfl) ?_
  intro p e s m args below meth c ls C0 hz hl
  have hin : ∀ w ∈ wsX00, w ∈ wsX0_freeBytes := by decide +kernel
  have l_nb : Cond.fieldLink RX0 38 "HandleHeap" "blocks" "I" ∈ wsX0_freeBytes := by decide +kernel
  have hl : lv_has ls 3 [(0, .ref (q 0))] := hl
  have hlen := hJ.len
  refine lv_iconst (v := nI 0) C0.1.1 C0.1.2.1 dX0_freeBytes_0 (by decide) ?_
  refine lv_istore_n (lv' := [(1, .int (nI 0)), (0, .ref (q 0))]) C0.1.1 C0.1.2.1 dX0_freeBytes_1 rfl hl (by decide) rfl (fun ls hl => ?_)
  refine lv_iconst (v := nI 0) C0.1.1 C0.1.2.1 dX0_freeBytes_2 (by decide) ?_
  refine lv_istore_n (lv' := [(2, .int (nI 0)), (1, .int (nI 0)), (0, .ref (q 0))]) C0.1.1 C0.1.2.1 dX0_freeBytes_3 rfl hl (by decide) rfl (fun ls hl => ?_)
  have hl : lv_has ls 3 [(0, .ref (q 0)), (1, .int (nI 0)), (2, .int (nI 0))] := lv_sub hl [2, 1, 0] rfl
  refine (?loop : ∀ (d k : Nat) (ls : Array Slot) (H : Heap) (locs : List Loc), gs_Z G (xw G q r) _ s H locs → k + d = (hs_R S).length + 1 → lv_has ls 3 [(0, .ref (q 0)), (1, .int (nI (hs_sm S k))), (2, .int (nI k))] → W p l e _ s m args below meth c H locs 0 0 _ (F0 m 4 ls [])) _ 0 ls _ _ hz (Nat.zero_add _) hl
  intro d
  induction d using Nat.strongRecOn with
  | _ d ih =>
    intro k ls H locs hz hd hl
    refine lv_iload_n C0.1.1 C0.1.2.1 dX0_freeBytes_4 rfl (lv_at hl 2 rfl) ?_
    refine lv_aload_n C0.1.1 C0.1.2.1 dX0_freeBytes_5 rfl (lv_at hl 0 rfl) ?_
    refine xg_nb C0 hin hz l_nb dX0_freeBytes_6 ?_
    refine gs_eq (y := nI ((hs_R S).length)) (hS.2.2.2.1.1) ?_
    refine lv_icmp_gt (tgt := 26) C0.1.1 C0.1.2.1 dX0_freeBytes_9 (by decide) (fun c1 => ?_) (fun c1 => ?_)
    · rw [nI_ltI (by omega) (by omega)] at c1
      obtain rfl : k = (hs_R S).length + 1 := by omega
      refine lv_iload_n C0.1.1 C0.1.2.1 dX0_freeBytes_26 rfl (lv_at hl 1 rfl) ?_
      exact gs_reti r C0 hz (⟨rfl, rfl⟩) (Nat.le_of_ble_eq_true rfl) (Nat.le_of_ble_eq_true rfl) dX0_freeBytes_27
    · rw [nI_ltI (by omega) (by omega)] at c1
      have hk1 : k ≤ (hs_R S).length := by omega
      refine lv_iload_n C0.1.1 C0.1.2.1 dX0_freeBytes_12 rfl (lv_at hl 1 rfl) ?_
      refine lv_aload_n C0.1.1 C0.1.2.1 dX0_freeBytes_13 rfl (lv_at hl 0 rfl) ?_
      refine lv_iload_n C0.1.1 C0.1.2.1 dX0_freeBytes_14 rfl (lv_at hl 2 rfl) ?_
      refine gs_callVi (w := xw G q) (wr := []) C0.1 (k_gapLength l G q r S hS hJ k hk1) (cwV 1 C0.1.2.2.2.2 gX0_freeBytes_X0_gapLength rfl rfl rfl (by decide +kernel) ⟨Nat.le_of_ble_eq_true rfl, Nat.le_of_ble_eq_true rfl⟩) (ci := 0) rfl rfl rfl (gs_nil hz) rfl hl.1 rfl (Nat.le_of_ble_eq_true rfl) dX0_freeBytes_15 ⟨Nat.le_of_ble_eq_true rfl, Nat.le_of_ble_eq_true rfl⟩ (fun res u9 H locs hp9 hz => ?_)
      replace hz := gs_unnil hz
      rw [hp9.1] at hz
      refine gs_eq (y := nI (hs_gl S k)) (hp9.2) ?_
      clear hp9
      refine lv_iadd C0.1.1 C0.1.2.1 dX0_freeBytes_18 ?_
      refine gs_eq (nI_add (hs_sm S k) (hs_gl S k)) ?_
      refine lv_istore_n (lv' := [(1, .int (nI ((hs_sm S k) + (hs_gl S k)))), (0, .ref (q 0)), (2, .int (nI k))]) C0.1.1 C0.1.2.1 dX0_freeBytes_19 rfl hl (by decide) rfl (fun ls hl => ?_)
      refine lv_iinc (v := nI (k + 1)) (lv' := [(2, .int (nI (k + 1))), (1, .int (nI ((hs_sm S k) + (hs_gl S k)))), (0, .ref (q 0))]) C0.1.1 C0.1.2.1 dX0_freeBytes_20 hl (k := 2) rfl (nI_1 k) (by decide) rfl (fun ls hl => ?_)
      refine lv_goto (tgt := 4) C0.1.1 C0.1.2.1 dX0_freeBytes_23 (by decide) ?_
      have hl : lv_has ls 3 [(0, .ref (q 0)), (1, .int (nI ((hs_sm S k) + (hs_gl S k)))), (2, .int (nI (k + 1)))] := lv_sub hl [2, 1, 0] rfl
      exact ih (d - 1) (by omega) (k + 1) ls _ _ hz (by omega) hl
