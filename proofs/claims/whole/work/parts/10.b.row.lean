/-! HandleHeap: the row, one block -/
set_option maxHeartbeats 4000000 in
set_option maxRecDepth 100000 in
/-- leaveRow -/
theorem k_leaveRow (l : Launch) (G : gs_G) (q : Nat → Nat) (r : xr) (R : List Nat) (hR : x_nb r = nI R.length ∧ ∀ k, k < R.length → x_rw r k = nI (hg_at R k)) (hlen : R.length ≤ 48) (hR2 : ∀ x ∈ R, x < 48) (h : Nat) (hh : h < 48) : gm_v l yX0_leaveRow wsX0_leaveRow (gm_rm 1 0 0) G (xw G q) r [.ref (q 0), .int (nI h)] (fun u => ∃ w, u = xs_nb (xs_rw r w) (nI (hg_out R h).length) ∧ ∀ k, k < (hg_out R h).length → w k = nI (hg_at (hg_out R h) k)) 0 0 := by
  refine gm_v.of (cc := cX0_leaveRow) (nL := 4) (ret := none) (by decide +kernel) rfl (Nat.le_of_ble_eq_true rfl) ?_
  intro p e s m args below meth c ls C0 hz hl
  have hin : ∀ w ∈ wsX00, w ∈ wsX0_leaveRow := by decide +kernel
  have l_nb : Cond.fieldLink RX0 38 "HandleHeap" "blocks" "I" ∈ wsX0_leaveRow := by decide +kernel
  have l_rw : Cond.fieldLink RX0 35 "HandleHeap" "row" "[I" ∈ wsX0_leaveRow := by decide +kernel
  have hl : lv_has ls 4 [(0, .ref (q 0)), (1, .int (nI h))] := hl
  refine lv_iconst (v := nI 0) C0.1.1 C0.1.2.1 dX0_leaveRow_0 (by decide) ?_
  refine lv_istore_n (lv' := [(2, .int (nI 0)), (0, .ref (q 0)), (1, .int (nI h))]) C0.1.1 C0.1.2.1 dX0_leaveRow_1 rfl hl (by decide) rfl (fun ls hl => ?_)
  refine lv_iconst (v := nI 0) C0.1.1 C0.1.2.1 dX0_leaveRow_2 (by decide) ?_
  refine lv_istore_n (lv' := [(3, .int (nI 0)), (2, .int (nI 0)), (0, .ref (q 0)), (1, .int (nI h))]) C0.1.1 C0.1.2.1 dX0_leaveRow_3 rfl hl (by decide) rfl (fun ls hl => ?_)
  have hl : lv_has ls 4 [(0, .ref (q 0)), (1, .int (nI h)), (2, .int (nI 0)), (3, .int (nI 0))] := lv_sub hl [2, 3, 1, 0] rfl
  refine (?loop : ∀ (d k : Nat) (w : Nat → Int32) (ls : Array Slot) (H : Heap) (locs : List Loc), gs_Z G (xw G q (xs_rw r w)) _ s H locs → k + d = R.length → (∀ j, j < (hg_out (R.take k) h).length → w j = nI (hg_at (hg_out (R.take k) h) j)) → (∀ j, k ≤ j → j < R.length → w j = nI (hg_at R j)) → lv_has ls 4 [(0, .ref (q 0)), (1, .int (nI h)), (2, .int (nI ((hg_out (R.take k) h).length))), (3, .int (nI k))] → W p l e _ s m args below meth c H locs 0 0 _ (F0 m 4 ls [])) _ 0 (x_rw r) ls _ _ hz (Nat.zero_add _) (fun j hj => absurd hj (Nat.not_lt_zero _)) (fun j _ hj => hR.2 j hj) hl
  intro d
  induction d using Nat.strongRecOn with
  | _ d ih =>
    intro k w ls H locs hz hd i1 i2 hl
    have hko : (hg_out (R.take k) h).length ≤ k := ho_len
    refine lv_iload_n C0.1.1 C0.1.2.1 dX0_leaveRow_4 rfl (lv_at hl 3 rfl) ?_
    refine lv_aload_n C0.1.1 C0.1.2.1 dX0_leaveRow_5 rfl (lv_at hl 0 rfl) ?_
    refine xg_nb C0 hin hz l_nb dX0_leaveRow_6 ?_
    refine gs_eq (y := nI (R.length)) (hR.1) ?_
    refine lv_icmp_ge (tgt := 43) C0.1.1 C0.1.2.1 dX0_leaveRow_9 (by decide) (fun c1 => ?_) (fun c1 => ?_)
    · rw [nI_leI (by omega) (by omega)] at c1
      obtain rfl : k = R.length := by omega
      rw [List.take_length] at i1 hl
      refine lv_aload_n C0.1.1 C0.1.2.1 dX0_leaveRow_43 rfl (lv_at hl 0 rfl) ?_
      refine lv_iload_n C0.1.1 C0.1.2.1 dX0_leaveRow_44 rfl (lv_at hl 2 rfl) ?_
      refine xp_nb C0 hin hz l_nb dX0_leaveRow_45 (fun H locs hz => ?_)
      obtain ⟨r1, er1⟩ : ∃ z, z = xs_nb (xs_rw r w) (nI ((hg_out R h).length)) := ⟨_, rfl⟩
      rw [← er1] at hz
      exact gs_retv r1 C0 hz (⟨w, er1, i1⟩) (Nat.le_of_ble_eq_true rfl) (Nat.le_of_ble_eq_true rfl) dX0_leaveRow_48
    · rw [nI_leI (by omega) (by omega)] at c1
      have hk1 : k < R.length := by omega
      have hat : hg_at R k < 48 := hR2 _ (hg_at_mem hk1)
      refine lv_aload_n C0.1.1 C0.1.2.1 dX0_leaveRow_12 rfl (lv_at hl 0 rfl) ?_
      refine xg_rw C0 hin hz l_rw dX0_leaveRow_13 ?_
      refine lv_iload_n C0.1.1 C0.1.2.1 dX0_leaveRow_16 rfl (lv_at hl 3 rfl) ?_
      refine xl_rw C0 hz k (by omega) rfl dX0_leaveRow_17 ?_
      refine gs_eq (y := nI (hg_at R k)) (i2 k (Nat.le_refl _) hk1) ?_
      refine lv_iload_n C0.1.1 C0.1.2.1 dX0_leaveRow_18 rfl (lv_at hl 1 rfl) ?_
      refine lv_icmp_eq (tgt := 37) C0.1.1 C0.1.2.1 dX0_leaveRow_19 (by decide) (fun c2 => ?_) (fun c2 => ?_)
      · rw [nI_eq (by omega) (by omega)] at c2
        have e1 : hg_out (R.take (k + 1)) h = hg_out (R.take k) h := by rw [ho_step hk1, if_pos c2]
        refine lv_iinc (v := nI (k + 1)) (lv' := [(3, .int (nI (k + 1))), (0, .ref (q 0)), (1, .int (nI h)), (2, .int (nI ((hg_out (R.take k) h).length)))]) C0.1.1 C0.1.2.1 dX0_leaveRow_37 hl (k := 3) rfl (nI_1 k) (by decide) rfl (fun ls hl => ?_)
        refine lv_goto (tgt := 4) C0.1.1 C0.1.2.1 dX0_leaveRow_40 (by decide) ?_
        have hl : lv_has ls 4 [(0, .ref (q 0)), (1, .int (nI h)), (2, .int (nI ((hg_out (R.take k) h).length))), (3, .int (nI (k + 1)))] := lv_sub hl [1, 2, 3, 0] rfl
        exact ih (d - 1) (by omega) (k + 1) w ls _ _ hz (by omega) (by rw [e1]; exact i1) (fun j hj => i2 j (by omega)) (by rw [e1]; exact hl)
      · rw [nI_eq (by omega) (by omega)] at c2
        have e1 : hg_out (R.take (k + 1)) h = hg_out (R.take k) h ++ [hg_at R k] := by rw [ho_step hk1, if_neg c2]
        refine lv_aload_n C0.1.1 C0.1.2.1 dX0_leaveRow_22 rfl (lv_at hl 0 rfl) ?_
        refine xg_rw C0 hin hz l_rw dX0_leaveRow_23 ?_
        refine lv_iload_n C0.1.1 C0.1.2.1 dX0_leaveRow_26 rfl (lv_at hl 2 rfl) ?_
        refine lv_aload_n C0.1.1 C0.1.2.1 dX0_leaveRow_27 rfl (lv_at hl 0 rfl) ?_
        refine xg_rw C0 hin hz l_rw dX0_leaveRow_28 ?_
        refine lv_iload_n C0.1.1 C0.1.2.1 dX0_leaveRow_31 rfl (lv_at hl 3 rfl) ?_
        refine xl_rw C0 hz k (by omega) rfl dX0_leaveRow_32 ?_
        refine gs_eq (y := nI (hg_at R k)) (i2 k (Nat.le_refl _) hk1) ?_
        refine xt_rw C0 hz ((hg_out (R.take k) h).length) (by omega) rfl dX0_leaveRow_33 (fun H locs hz => ?_)
        have hz : gs_Z G (xw G q (xs_rw r (upd w (hg_out (R.take k) h).length (nI (hg_at R k))))) _ s H locs := hz
        refine lv_iinc (v := nI (((hg_out (R.take k) h).length) + 1)) (lv' := [(2, .int (nI (((hg_out (R.take k) h).length) + 1))), (0, .ref (q 0)), (1, .int (nI h)), (3, .int (nI k))]) C0.1.1 C0.1.2.1 dX0_leaveRow_34 hl (k := 2) rfl (nI_1 ((hg_out (R.take k) h).length)) (by decide) rfl (fun ls hl => ?_)
        refine lv_iinc (v := nI (k + 1)) (lv' := [(3, .int (nI (k + 1))), (2, .int (nI (((hg_out (R.take k) h).length) + 1))), (0, .ref (q 0)), (1, .int (nI h))]) C0.1.1 C0.1.2.1 dX0_leaveRow_37 hl (k := 3) rfl (nI_1 k) (by decide) rfl (fun ls hl => ?_)
        refine lv_goto (tgt := 4) C0.1.1 C0.1.2.1 dX0_leaveRow_40 (by decide) ?_
        have hl : lv_has ls 4 [(0, .ref (q 0)), (1, .int (nI h)), (2, .int (nI (((hg_out (R.take k) h).length) + 1))), (3, .int (nI (k + 1)))] := lv_sub hl [2, 3, 1, 0] rfl
        have e2 : (hg_out (R.take (k + 1)) h).length = (hg_out (R.take k) h).length + 1 := by rw [e1, List.length_append]; rfl
        exact ih (d - 1) (by omega) (k + 1) _ ls _ _ hz (by omega) (by rw [e1]; exact ho_put i1) (fun j hj hj2 => by rw [pk_un (by omega)]; exact i2 j (by omega) hj2) (by rw [e2]; exact hl)
set_option maxHeartbeats 4000000 in
set_option maxRecDepth 100000 in
/-- enterRow -/
theorem k_enterRow (l : Launch) (G : gs_G) (q : Nat → Nat) (r : xr) (R : List Nat) (b : Nat → Nat) (hR : x_nb r = nI R.length ∧ ∀ k, k < R.length → x_rw r k = nI (hg_at R k)) (hlen : R.length ≤ 47) (hR2 : ∀ x ∈ R, x < 48 ∧ x_bg r x = nI (b x) ∧ b x ≤ 1024) (hs : ∀ i j, i < j → j < R.length → b (hg_at R i) ≤ b (hg_at R j)) (h : Nat) (hh : h < 48) (hb : x_bg r h = nI (b h) ∧ b h ≤ 1024) : gm_v l yX0_enterRow wsX0_enterRow (gm_rm 1 0 0) G (xw G q) r [.ref (q 0), .int (nI h)] (fun u => ∃ w, u = xs_nb (xs_rw r w) (nI (R.length + 1)) ∧ ∀ k, k < R.length + 1 → w k = nI (hg_at (hg_ins b h R) k)) 0 0 := by
  refine gm_v.of (cc := cX0_enterRow) (nL := 3) (ret := none) (by decide +kernel) rfl (Nat.le_of_ble_eq_true rfl) ?_
  intro p e s m args below meth c ls C0 hz hl
  have hin : ∀ w ∈ wsX00, w ∈ wsX0_enterRow := by decide +kernel
  have l_nb : Cond.fieldLink RX0 38 "HandleHeap" "blocks" "I" ∈ wsX0_enterRow := by decide +kernel
  have l_bg : Cond.fieldLink RX0 13 "HandleHeap" "begin" "[I" ∈ wsX0_enterRow := by decide +kernel
  have l_rw : Cond.fieldLink RX0 35 "HandleHeap" "row" "[I" ∈ wsX0_enterRow := by decide +kernel
  have hl : lv_has ls 3 [(0, .ref (q 0)), (1, .int (nI h))] := hl
  refine lv_aload_n C0.1.1 C0.1.2.1 dX0_enterRow_0 rfl (lv_at hl 0 rfl) ?_
  refine xg_nb C0 hin hz l_nb dX0_enterRow_1 ?_
  refine gs_eq (y := nI (R.length)) (hR.1) ?_
  refine lv_istore_n (lv' := [(2, .int (nI (R.length))), (0, .ref (q 0)), (1, .int (nI h))]) C0.1.1 C0.1.2.1 dX0_enterRow_4 rfl hl (by decide) rfl (fun ls hl => ?_)
  have hl : lv_has ls 3 [(0, .ref (q 0)), (1, .int (nI h)), (2, .int (nI (R.length)))] := lv_sub hl [1, 2, 0] rfl
  refine (?loop : ∀ (k : Nat) (w : Nat → Int32) (ls : Array Slot) (H : Heap) (locs : List Loc), gs_Z G (xw G q (xs_rw r w)) _ s H locs → k ≤ R.length → (∀ j, j < k → w j = nI (hg_at R j)) → (∀ j, k ≤ j → j < R.length → w (j + 1) = nI (hg_at R j) ∧ b h < b (hg_at R j)) → lv_has ls 3 [(0, .ref (q 0)), (1, .int (nI h)), (2, .int (nI k))] → W p l e _ s m args below meth c H locs 0 0 _ (F0 m 5 ls [])) R.length (x_rw r) ls _ _ hz (Nat.le_refl _) (fun j hj => hR.2 j hj) (fun j h1 h2 => absurd h2 (Nat.not_lt.mpr h1)) hl
  intro k
  induction k with
  | zero =>
    intro w ls H locs hz hk i1 i2 hl
    refine lv_iload_n C0.1.1 C0.1.2.1 dX0_enterRow_5 rfl (lv_at hl 2 rfl) ?_
    refine lv_if_le (tgt := 51) C0.1.1 C0.1.2.1 dX0_enterRow_6 (by decide) (fun c1 => ?_) (fun c1 => ?_)
    · rw [n0_le (by omega)] at c1
      refine lv_aload_n C0.1.1 C0.1.2.1 dX0_enterRow_51 rfl (lv_at hl 0 rfl) ?_
      refine xg_rw C0 hin hz l_rw dX0_enterRow_52 ?_
      refine lv_iload_n C0.1.1 C0.1.2.1 dX0_enterRow_55 rfl (lv_at hl 2 rfl) ?_
      refine lv_iload_n C0.1.1 C0.1.2.1 dX0_enterRow_56 rfl (lv_at hl 1 rfl) ?_
      refine xt_rw C0 hz 0 (by omega) rfl dX0_enterRow_57 (fun H locs hz => ?_)
      have hz : gs_Z G (xw G q (xs_rw r (upd w 0 (nI h)))) _ s H locs := hz
      refine lv_aload_n C0.1.1 C0.1.2.1 dX0_enterRow_58 rfl (lv_at hl 0 rfl) ?_
      refine lv_dup C0.1.1 C0.1.2.1 dX0_enterRow_59 rfl ?_
      refine xg_nb C0 hin hz l_nb dX0_enterRow_60 ?_
      refine gs_eq (y := nI (R.length)) (hR.1) ?_
      refine lv_iconst (v := nI 1) C0.1.1 C0.1.2.1 dX0_enterRow_63 (by decide) ?_
      refine lv_iadd C0.1.1 C0.1.2.1 dX0_enterRow_64 ?_
      refine gs_eq (nI_add (R.length) 1) ?_
      refine xp_nb C0 hin hz l_nb dX0_enterRow_65 (fun H locs hz => ?_)
      exact gs_retv (xs_nb (xs_rw r (upd w 0 (nI h))) (nI ((R.length) + 1))) C0 hz (⟨_, rfl, en_fin hs hk i1 i2 (Or.inl rfl)⟩) (Nat.le_of_ble_eq_true rfl) (Nat.le_of_ble_eq_true rfl) dX0_enterRow_68
    · rw [n0_le (by omega)] at c1
      exact absurd rfl c1
  | succ k ih =>
    intro w ls H locs hz hk i1 i2 hl
    refine lv_iload_n C0.1.1 C0.1.2.1 dX0_enterRow_5 rfl (lv_at hl 2 rfl) ?_
    refine lv_if_le (tgt := 51) C0.1.1 C0.1.2.1 dX0_enterRow_6 (by decide) (fun c1 => ?_) (fun c1 => ?_)
    · rw [n0_le (by omega)] at c1
      exact absurd c1 (Nat.succ_ne_zero k)
    · rw [n0_le (by omega)] at c1
      have hk1 : k < R.length := by omega
      have hat := hR2 _ (hg_at_mem hk1)
      have hbk : b (hg_at R k) ≤ 1024 := hat.2.2
      have hbh : b h ≤ 1024 := hb.2
      refine lv_aload_n C0.1.1 C0.1.2.1 dX0_enterRow_9 rfl (lv_at hl 0 rfl) ?_
      refine xg_bg C0 hin hz l_bg dX0_enterRow_10 ?_
      refine lv_aload_n C0.1.1 C0.1.2.1 dX0_enterRow_13 rfl (lv_at hl 0 rfl) ?_
      refine xg_rw C0 hin hz l_rw dX0_enterRow_14 ?_
      refine lv_iload_n C0.1.1 C0.1.2.1 dX0_enterRow_17 rfl (lv_at hl 2 rfl) ?_
      refine lv_iconst (v := nI 1) C0.1.1 C0.1.2.1 dX0_enterRow_18 (by decide) ?_
      refine lv_isub C0.1.1 C0.1.2.1 dX0_enterRow_19 ?_
      refine gs_eq (pk_sub (by omega)) ?_
      refine xl_rw C0 hz k (by omega) (rfl) dX0_enterRow_20 ?_
      refine gs_eq (y := nI (hg_at R k)) (i1 k (Nat.lt_succ_self k)) ?_
      refine xl_bg C0 hz (hg_at R k) (hat.1) rfl dX0_enterRow_21 ?_
      refine gs_eq (y := nI (b (hg_at R k))) (hat.2.1) ?_
      refine lv_aload_n C0.1.1 C0.1.2.1 dX0_enterRow_22 rfl (lv_at hl 0 rfl) ?_
      refine xg_bg C0 hin hz l_bg dX0_enterRow_23 ?_
      refine lv_iload_n C0.1.1 C0.1.2.1 dX0_enterRow_26 rfl (lv_at hl 1 rfl) ?_
      refine xl_bg C0 hz h (by omega) rfl dX0_enterRow_27 ?_
      refine gs_eq (y := nI (b h)) (hb.1) ?_
      refine lv_icmp_le (tgt := 51) C0.1.1 C0.1.2.1 dX0_enterRow_28 (by decide) (fun c2 => ?_) (fun c2 => ?_)
      · rw [nI_leI (by omega) (by omega)] at c2
        refine lv_aload_n C0.1.1 C0.1.2.1 dX0_enterRow_51 rfl (lv_at hl 0 rfl) ?_
        refine xg_rw C0 hin hz l_rw dX0_enterRow_52 ?_
        refine lv_iload_n C0.1.1 C0.1.2.1 dX0_enterRow_55 rfl (lv_at hl 2 rfl) ?_
        refine lv_iload_n C0.1.1 C0.1.2.1 dX0_enterRow_56 rfl (lv_at hl 1 rfl) ?_
        refine xt_rw C0 hz (k + 1) (by omega) rfl dX0_enterRow_57 (fun H locs hz => ?_)
        have hz : gs_Z G (xw G q (xs_rw r (upd w (k + 1) (nI h)))) _ s H locs := hz
        refine lv_aload_n C0.1.1 C0.1.2.1 dX0_enterRow_58 rfl (lv_at hl 0 rfl) ?_
        refine lv_dup C0.1.1 C0.1.2.1 dX0_enterRow_59 rfl ?_
        refine xg_nb C0 hin hz l_nb dX0_enterRow_60 ?_
        refine gs_eq (y := nI (R.length)) (hR.1) ?_
        refine lv_iconst (v := nI 1) C0.1.1 C0.1.2.1 dX0_enterRow_63 (by decide) ?_
        refine lv_iadd C0.1.1 C0.1.2.1 dX0_enterRow_64 ?_
        refine gs_eq (nI_add (R.length) 1) ?_
        refine xp_nb C0 hin hz l_nb dX0_enterRow_65 (fun H locs hz => ?_)
        exact gs_retv (xs_nb (xs_rw r (upd w (k + 1) (nI h))) (nI ((R.length) + 1))) C0 hz (⟨_, rfl, en_fin hs hk i1 i2 (Or.inr c2)⟩) (Nat.le_of_ble_eq_true rfl) (Nat.le_of_ble_eq_true rfl) dX0_enterRow_68
      · rw [nI_leI (by omega) (by omega)] at c2
        refine lv_aload_n C0.1.1 C0.1.2.1 dX0_enterRow_31 rfl (lv_at hl 0 rfl) ?_
        refine xg_rw C0 hin hz l_rw dX0_enterRow_32 ?_
        refine lv_iload_n C0.1.1 C0.1.2.1 dX0_enterRow_35 rfl (lv_at hl 2 rfl) ?_
        refine lv_aload_n C0.1.1 C0.1.2.1 dX0_enterRow_36 rfl (lv_at hl 0 rfl) ?_
        refine xg_rw C0 hin hz l_rw dX0_enterRow_37 ?_
        refine lv_iload_n C0.1.1 C0.1.2.1 dX0_enterRow_40 rfl (lv_at hl 2 rfl) ?_
        refine lv_iconst (v := nI 1) C0.1.1 C0.1.2.1 dX0_enterRow_41 (by decide) ?_
        refine lv_isub C0.1.1 C0.1.2.1 dX0_enterRow_42 ?_
        refine gs_eq (pk_sub (by omega)) ?_
        refine xl_rw C0 hz k (by omega) (rfl) dX0_enterRow_43 ?_
        refine gs_eq (y := nI (hg_at R k)) (i1 k (Nat.lt_succ_self k)) ?_
        refine xt_rw C0 hz (k + 1) (by omega) rfl dX0_enterRow_44 (fun H locs hz => ?_)
        have hz : gs_Z G (xw G q (xs_rw r (upd w (k + 1) (nI (hg_at R k))))) _ s H locs := hz
        refine lv_iinc (v := nI k) (lv' := [(2, .int (nI k)), (0, .ref (q 0)), (1, .int (nI h))]) C0.1.1 C0.1.2.1 dX0_enterRow_45 hl (k := 2) rfl (pk_m1 k) (by decide) rfl (fun ls hl => ?_)
        refine lv_goto (tgt := 5) C0.1.1 C0.1.2.1 dX0_enterRow_48 (by decide) ?_
        have hl : lv_has ls 3 [(0, .ref (q 0)), (1, .int (nI h)), (2, .int (nI k))] := lv_sub hl [1, 2, 0] rfl
        refine ih _ ls _ _ hz (by omega) (fun j hj => by rw [pk_un (by omega)]; exact i1 j (by omega)) (fun j h1 h2 => ?_) hl
        by_cases e : j = k
        · subst e; exact ⟨pk_us, by omega⟩
        · rw [pk_un (by omega)]; exact i2 j (by omega) h2
set_option maxHeartbeats 4000000 in
set_option maxRecDepth 100000 in
/-- setLength -/
theorem k_setLength (l : Launch) (G : gs_G) (q : Nat → Nat) (r : xr) (h b n0 n : Nat) (hh : h < 48) (hb : x_bg r h = nI b) (hn0 : x_ln r h = nI n0) (h0 : b + n0 ≤ 1024) (h1 : b + n ≤ 1024) : gm_v l yX0_setLength wsX0_setLength (gm_rm 3 0 0) G (xw G q) r [.ref (q 0), .int (nI h), .int (nI n)] (fun u => u = xs_ln (xs_hp r (fun j => if b + n0 ≤ j ∧ j < b + n then 0 else x_hp r j)) (upd (x_ln r) h (nI n))) 0 0 := by
  refine gm_v.of (cc := cX0_setLength) (nL := 3) (ret := none) (by decide +kernel) rfl (Nat.le_of_ble_eq_true rfl) ?_
  intro p e s m args below meth c ls C0 hz hl
  have hin : ∀ w ∈ wsX00, w ∈ wsX0_setLength := by decide +kernel
  have l_ln : Cond.fieldLink RX0 22 "HandleHeap" "length" "[I" ∈ wsX0_setLength := by decide +kernel
  have l_hp : Cond.fieldLink RX0 9 "HandleHeap" "heap" "[I" ∈ wsX0_setLength := by decide +kernel
  have l_bg : Cond.fieldLink RX0 13 "HandleHeap" "begin" "[I" ∈ wsX0_setLength := by decide +kernel
  have hl : lv_has ls 3 [(0, .ref (q 0)), (1, .int (nI h)), (2, .int (nI n))] := hl
  refine lv_iload_n C0.1.1 C0.1.2.1 dX0_setLength_0 rfl (lv_at hl 2 rfl) ?_
  refine lv_aload_n C0.1.1 C0.1.2.1 dX0_setLength_1 rfl (lv_at hl 0 rfl) ?_
  refine xg_ln C0 hin hz l_ln dX0_setLength_2 ?_
  refine lv_iload_n C0.1.1 C0.1.2.1 dX0_setLength_5 rfl (lv_at hl 1 rfl) ?_
  refine xl_ln C0 hz h (by omega) rfl dX0_setLength_6 ?_
  refine gs_eq (y := nI n0) (hn0) ?_
  refine lv_icmp_le (tgt := 31) C0.1.1 C0.1.2.1 dX0_setLength_7 (by decide) (fun c1 => ?_) (fun c1 => ?_)
  · rw [nI_leI (by omega) (by omega)] at c1
    refine lv_aload_n C0.1.1 C0.1.2.1 dX0_setLength_31 rfl (lv_at hl 0 rfl) ?_
    refine xg_ln C0 hin hz l_ln dX0_setLength_32 ?_
    refine lv_iload_n C0.1.1 C0.1.2.1 dX0_setLength_35 rfl (lv_at hl 1 rfl) ?_
    refine lv_iload_n C0.1.1 C0.1.2.1 dX0_setLength_36 rfl (lv_at hl 2 rfl) ?_
    refine xt_ln C0 hz h (by omega) rfl dX0_setLength_37 (fun H locs hz => ?_)
    exact gs_retv (xs_ln r (upd (x_ln r) h (nI n))) C0 hz (by rw [← fl_no (by omega)]; rfl) (Nat.le_of_ble_eq_true rfl) (Nat.le_of_ble_eq_true rfl) dX0_setLength_38
  · rw [nI_leI (by omega) (by omega)] at c1
    refine lv_aload_n C0.1.1 C0.1.2.1 dX0_setLength_10 rfl (lv_at hl 0 rfl) ?_
    refine xg_hp C0 hin hz l_hp dX0_setLength_11 ?_
    refine lv_aload_n C0.1.1 C0.1.2.1 dX0_setLength_14 rfl (lv_at hl 0 rfl) ?_
    refine lv_iload_n C0.1.1 C0.1.2.1 dX0_setLength_15 rfl (lv_at hl 1 rfl) ?_
    refine gs_callVi (w := xw G q) (wr := []) C0.1 (k_endOf l G q r h hh) (cwV 1 C0.1.2.2.2.2 gX0_setLength_X0_endOf rfl rfl rfl (by decide +kernel) ⟨Nat.le_of_ble_eq_true rfl, Nat.le_of_ble_eq_true rfl⟩) (ci := 0) rfl rfl rfl (gs_nil hz) rfl hl.1 rfl (Nat.le_of_ble_eq_true rfl) dX0_setLength_16 ⟨Nat.le_of_ble_eq_true rfl, Nat.le_of_ble_eq_true rfl⟩ (fun res u9 H locs hp9 hz => ?_)
    replace hz := gs_unnil hz
    rw [hp9.1] at hz
    refine gs_eq (y := nI (b + n0)) (by rw [hp9.2, hb, hn0, nI_add]) ?_
    clear hp9
    refine lv_aload_n C0.1.1 C0.1.2.1 dX0_setLength_19 rfl (lv_at hl 0 rfl) ?_
    refine xg_bg C0 hin hz l_bg dX0_setLength_20 ?_
    refine lv_iload_n C0.1.1 C0.1.2.1 dX0_setLength_23 rfl (lv_at hl 1 rfl) ?_
    refine xl_bg C0 hz h (by omega) rfl dX0_setLength_24 ?_
    refine gs_eq (y := nI b) (hb) ?_
    refine lv_iload_n C0.1.1 C0.1.2.1 dX0_setLength_25 rfl (lv_at hl 2 rfl) ?_
    refine lv_iadd C0.1.1 C0.1.2.1 dX0_setLength_26 ?_
    refine gs_eq (nI_add b n) ?_
    refine lv_iconst (v := nI 0) C0.1.1 C0.1.2.1 dX0_setLength_27 (by decide) ?_
    refine gs_callSv (w := fun w : va_W => w) (wr := []) C0.1 (k_fillr l G (xw G q r) 1 (q 1) 1024 (x_hp r) rfl (b + n0) (b + n) (nI 0) (by omega) (by omega) (by decide)) (va_cwS 4 C0.1.2.2.2.2 gX0_setLength_J7_fill_fda19 rfl rfl rfl (by decide +kernel) ⟨Nat.le_of_ble_eq_true rfl, Nat.le_of_ble_eq_true rfl⟩) (gs_nil hz) rfl hl.1 rfl (Nat.le_of_ble_eq_true rfl) dX0_setLength_28 ⟨Nat.le_of_ble_eq_true rfl, Nat.le_of_ble_eq_true rfl⟩ (fun u H locs hp hz => ?_)
    replace hz := gs_unnil hz
    rw [hp, nI_0] at hz
    have hz : gs_Z G (xw G q (xs_hp r (fun j => if b + n0 ≤ j ∧ j < b + n then 0 else x_hp r j))) _ s H locs := hz
    refine lv_aload_n C0.1.1 C0.1.2.1 dX0_setLength_31 rfl (lv_at hl 0 rfl) ?_
    refine xg_ln C0 hin hz l_ln dX0_setLength_32 ?_
    refine lv_iload_n C0.1.1 C0.1.2.1 dX0_setLength_35 rfl (lv_at hl 1 rfl) ?_
    refine lv_iload_n C0.1.1 C0.1.2.1 dX0_setLength_36 rfl (lv_at hl 2 rfl) ?_
    refine xt_ln C0 hz h (by omega) rfl dX0_setLength_37 (fun H locs hz => ?_)
    exact gs_retv (xs_ln (xs_hp r (fun j => if b + n0 ≤ j ∧ j < b + n then 0 else x_hp r j)) (upd (x_ln (xs_hp r (fun j => if b + n0 ≤ j ∧ j < b + n then 0 else x_hp r j))) h (nI n))) C0 hz (rfl) (Nat.le_of_ble_eq_true rfl) (Nat.le_of_ble_eq_true rfl) dX0_setLength_38
set_option maxHeartbeats 4000000 in
set_option maxRecDepth 100000 in
/-- moveTo -/
theorem k_moveTo (l : Launch) (G : gs_G) (q : Nat → Nat) (r : xr) (h b n a : Nat) (hh : h < 48) (hb : x_bg r h = nI b) (hn : x_ln r h = nI n) (h0 : b + n ≤ 1024) (h1 : a + n ≤ 1024) : gm_v l yX0_moveTo wsX0_moveTo (gm_rm 2 0 0) G (xw G q) r [.ref (q 0), .int (nI h), .int (nI a)] (fun u => u = if a = b then r else xs_mv (xs_bg (xs_hp r (va_cpy (x_hp r) (x_hp r) b a n)) (upd (x_bg r) h (nI a))) (x_mv r + nI n)) 0 0 := by
  refine gm_v.of (cc := cX0_moveTo) (nL := 3) (ret := none) (by decide +kernel) rfl (Nat.le_of_ble_eq_true rfl) ?_
  intro p e s m args below meth c ls C0 hz hl
  have hin : ∀ w ∈ wsX00, w ∈ wsX0_moveTo := by decide +kernel
  have l_bg : Cond.fieldLink RX0 13 "HandleHeap" "begin" "[I" ∈ wsX0_moveTo := by decide +kernel
  have l_hp : Cond.fieldLink RX0 9 "HandleHeap" "heap" "[I" ∈ wsX0_moveTo := by decide +kernel
  have l_ln : Cond.fieldLink RX0 22 "HandleHeap" "length" "[I" ∈ wsX0_moveTo := by decide +kernel
  have l_mv : Cond.fieldLink RX0 42 "HandleHeap" "bytesMoved" "I" ∈ wsX0_moveTo := by decide +kernel
  have hl : lv_has ls 3 [(0, .ref (q 0)), (1, .int (nI h)), (2, .int (nI a))] := hl
  refine lv_iload_n C0.1.1 C0.1.2.1 dX0_moveTo_0 rfl (lv_at hl 2 rfl) ?_
  refine lv_aload_n C0.1.1 C0.1.2.1 dX0_moveTo_1 rfl (lv_at hl 0 rfl) ?_
  refine xg_bg C0 hin hz l_bg dX0_moveTo_2 ?_
  refine lv_iload_n C0.1.1 C0.1.2.1 dX0_moveTo_5 rfl (lv_at hl 1 rfl) ?_
  refine xl_bg C0 hz h (by omega) rfl dX0_moveTo_6 ?_
  refine gs_eq (y := nI b) (hb) ?_
  refine lv_icmp_ne (tgt := 11) C0.1.1 C0.1.2.1 dX0_moveTo_7 (by decide) (fun c1 => ?_) (fun c1 => ?_)
  · rw [nI_eq (by omega) (by omega)] at c1
    refine lv_aload_n C0.1.1 C0.1.2.1 dX0_moveTo_11 rfl (lv_at hl 0 rfl) ?_
    refine xg_hp C0 hin hz l_hp dX0_moveTo_12 ?_
    refine lv_aload_n C0.1.1 C0.1.2.1 dX0_moveTo_15 rfl (lv_at hl 0 rfl) ?_
    refine xg_bg C0 hin hz l_bg dX0_moveTo_16 ?_
    refine lv_iload_n C0.1.1 C0.1.2.1 dX0_moveTo_19 rfl (lv_at hl 1 rfl) ?_
    refine xl_bg C0 hz h (by omega) rfl dX0_moveTo_20 ?_
    refine gs_eq (y := nI b) (hb) ?_
    refine lv_aload_n C0.1.1 C0.1.2.1 dX0_moveTo_21 rfl (lv_at hl 0 rfl) ?_
    refine xg_hp C0 hin hz l_hp dX0_moveTo_22 ?_
    refine lv_iload_n C0.1.1 C0.1.2.1 dX0_moveTo_25 rfl (lv_at hl 2 rfl) ?_
    refine lv_aload_n C0.1.1 C0.1.2.1 dX0_moveTo_26 rfl (lv_at hl 0 rfl) ?_
    refine xg_ln C0 hin hz l_ln dX0_moveTo_27 ?_
    refine lv_iload_n C0.1.1 C0.1.2.1 dX0_moveTo_30 rfl (lv_at hl 1 rfl) ?_
    refine xl_ln C0 hz h (by omega) rfl dX0_moveTo_31 ?_
    refine gs_eq (y := nI n) (hn) ?_
    refine gs_copy C0 hz 1 rfl b a n (by omega) (by omega) (by decide) (by decide +kernel) (by decide +kernel) (by decide +kernel) (by decide +kernel) hl.1 (Nat.le_of_ble_eq_true rfl) (by decide +kernel) dX0_moveTo_32 (fun H locs hz => ?_)
    have hz : gs_Z G (xw G q (xs_hp r (va_cpy (x_hp r) (x_hp r) b a n))) _ s H locs := hz
    refine lv_aload_n C0.1.1 C0.1.2.1 dX0_moveTo_35 rfl (lv_at hl 0 rfl) ?_
    refine xg_bg C0 hin hz l_bg dX0_moveTo_36 ?_
    refine lv_iload_n C0.1.1 C0.1.2.1 dX0_moveTo_39 rfl (lv_at hl 1 rfl) ?_
    refine lv_iload_n C0.1.1 C0.1.2.1 dX0_moveTo_40 rfl (lv_at hl 2 rfl) ?_
    refine xt_bg C0 hz h (by omega) rfl dX0_moveTo_41 (fun H locs hz => ?_)
    have hz : gs_Z G (xw G q (xs_bg (xs_hp r (va_cpy (x_hp r) (x_hp r) b a n)) (upd (x_bg r) h (nI a)))) _ s H locs := hz
    refine lv_aload_n C0.1.1 C0.1.2.1 dX0_moveTo_42 rfl (lv_at hl 0 rfl) ?_
    refine lv_dup C0.1.1 C0.1.2.1 dX0_moveTo_43 rfl ?_
    refine xg_mv C0 hin hz l_mv dX0_moveTo_44 ?_
    refine gs_eq (y := x_mv r) (rfl) ?_
    refine lv_aload_n C0.1.1 C0.1.2.1 dX0_moveTo_47 rfl (lv_at hl 0 rfl) ?_
    refine xg_ln C0 hin hz l_ln dX0_moveTo_48 ?_
    refine lv_iload_n C0.1.1 C0.1.2.1 dX0_moveTo_51 rfl (lv_at hl 1 rfl) ?_
    refine xl_ln C0 hz h (by omega) rfl dX0_moveTo_52 ?_
    refine gs_eq (y := nI n) (hn) ?_
    refine lv_iadd C0.1.1 C0.1.2.1 dX0_moveTo_53 ?_
    refine xp_mv C0 hin hz l_mv dX0_moveTo_54 (fun H locs hz => ?_)
    exact gs_retv (xs_mv (xs_bg (xs_hp r (va_cpy (x_hp r) (x_hp r) b a n)) (upd (x_bg r) h (nI a))) ((x_mv r) + (nI n))) C0 hz (by rw [if_neg c1]) (Nat.le_of_ble_eq_true rfl) (Nat.le_of_ble_eq_true rfl) dX0_moveTo_57
  · rw [nI_eq (by omega) (by omega)] at c1
    exact gs_retv r C0 hz (by rw [if_pos c1]) (Nat.le_of_ble_eq_true rfl) (Nat.le_of_ble_eq_true rfl) dX0_moveTo_10
