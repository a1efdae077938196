/-! HandleHeap: clear, put, get, owner, told -/
theorem hs_cl_0 {n : Nat} {S : hs_S} {k : Nat} : hs_cl n 0 S k = (S, k) := rfl
theorem hs_cl_g {n d : Nat} {S : hs_S} {k : Nat} (h : ¬ hs_gg S < n) : hs_cl n d S k = (S, k) := by
  cases d with
  | zero => rfl
  | succ d => rw [hs_cl, if_neg h]
theorem hs_cl_n {n d : Nat} {S : hs_S} {k : Nat} (e : hs_l1 S 48 = none) : hs_cl n d S k = (S, k) := by
  cases d with
  | zero => rfl
  | succ d =>
    rw [hs_cl]
    by_cases q : hs_gg S < n
    · rw [if_pos q, e]
    · rw [if_neg q]
theorem hs_cl_s {n d : Nat} {S : hs_S} {k h : Nat} (q : hs_gg S < n) (e : hs_l1 S 48 = some h) : hs_cl n (d + 1) S k = hs_cl n d (hs_sl (hs_gu S h)) (k + 1) := by
  rw [hs_cl, if_pos q, e]
theorem hs_gg_le {S : hs_S} (hJ : hs_J S) : hs_gg S ≤ 1024 := hs_mx_le hJ _ (Nat.le_refl _)
set_option maxHeartbeats 4000000 in
set_option maxRecDepth 100000 in
/-- clear -/
theorem k_clear (l : Launch) (hst : l.stackTraces = false) (G : gs_G) (q : Nat → Nat) (r : xr) (S : hs_S) (hS : rx S r) (hI : hs_I S) (x : Int32) : gx_i l yX0_clear wsX0_clear (gm_rm 10 4 24) G (xw G q) r [.ref (q 0), .int x] (fun res u => px (sp_clear S x) res u) (fun E => (sp_clear S x).1 ≠ 0 ∧ ex (sp_clear S x).1 E) 4 24 := by
  refine gx_i.of (cc := cX0_clear) (nL := 3) (ret := (some .int)) (by decide +kernel) rfl (Nat.le_of_ble_eq_true rfl) ?_
  intro p e s m args below meth c ls C0 hz hxz hl
  have hl : lv_has ls 3 [(0, .ref (q 0)), (1, .int x)] := hl
  refine lv_iload_n C0.1.1 C0.1.2.1 dX0_clear_0 rfl (lv_at hl 1 rfl) ?_
  refine lv_if_lt (tgt := 11) C0.1.1 C0.1.2.1 dX0_clear_1 (by decide) (fun c1 => ?_) (fun c1 => ?_)
  · skip
    exact gs_throw (cls := "java/lang/IllegalArgumentException") (text := "n is not 0 to 1024") C0 hst hz hxz (ex1 (sp_clear_x (fun ⟨k, _, h2, h3⟩ => by rw [h3] at c1; exact nI_pos (by omega) c1)) rfl) (Or.inl rfl) (by decide) (C0.1.2.2.2.2 (.classLink RX0 104 "java/lang/IllegalArgumentException") (by decide +kernel)) (C0.1.2.2.2.2 (.initialized "java/lang/IllegalArgumentException") (by decide +kernel)) (fun w hw => C0.1.2.2.2.2 w (List.mem_cons_of_mem _ (List.mem_append_left _ (List.mem_append_right _ (hw))))) (by decide +kernel) (by decide +kernel) hl.1 dX0_clear_11 dX0_clear_14 dX0_clear_15 dX0_clear_17 dX0_clear_20 (Nat.le_of_ble_eq_true rfl) (Nat.le_of_ble_eq_true rfl) (Nat.le_of_ble_eq_true rfl) (Nat.le_of_ble_eq_true rfl) (Nat.le_of_ble_eq_true rfl) (Nat.le_of_ble_eq_true rfl)
  · skip
    obtain ⟨n, hn0, rfl⟩ := nI_of c1
    refine lv_iload_n C0.1.1 C0.1.2.1 dX0_clear_4 rfl (lv_at hl 1 rfl) ?_
    refine lv_sipush (v := nI 1024) C0.1.1 C0.1.2.1 dX0_clear_5 (by decide) ?_
    refine lv_icmp_le (tgt := 21) C0.1.1 C0.1.2.1 dX0_clear_8 (by decide) (fun c2 => ?_) (fun c2 => ?_)
    · rw [nI_leI (by omega) (by omega)] at c2
      have hsp := sp_clear_h (S := S) c2
      refine lv_iconst (v := nI 0) C0.1.1 C0.1.2.1 dX0_clear_21 (by decide) ?_
      refine lv_istore_n (lv' := [(2, .int (nI 0)), (0, .ref (q 0)), (1, .int (nI n))]) C0.1.1 C0.1.2.1 dX0_clear_22 rfl hl (by decide) rfl (fun ls hl => ?_)
      have hl : lv_has ls 3 [(0, .ref (q 0)), (1, .int (nI n)), (2, .int (nI 0))] := lv_sub hl [1, 2, 0] rfl
      refine (?loop : ∀ (d k : Nat) (T : hs_S) (rk : xr) (ls : Array Slot) (H : Heap) (locs : List Loc), gs_Z G (xw G q rk) _ s H locs → k + d = 48 → rx T rk → hs_I T → hs_cl n 48 S 0 = hs_cl n d T k → lv_has ls 3 [(0, .ref (q 0)), (1, .int (nI n)), (2, .int (nI k))] → W p l e _ s m args below meth c H locs 0 0 _ (F0 m 23 ls [])) 48 0 S r ls _ _ hz (Nat.zero_add _) hS hI rfl hl
      intro d
      induction d using Nat.strongRecOn with
      | _ d ih =>
        intro k T rk ls H locs hz hd hT hIT key hl
        have hgg := hs_gg_le hIT.J
        refine lv_iload_n C0.1.1 C0.1.2.1 dX0_clear_23 rfl (lv_at hl 2 rfl) ?_
        refine lv_bipush (v := nI 48) C0.1.1 C0.1.2.1 dX0_clear_24 (by decide) ?_
        refine lv_icmp_ge (tgt := 55) C0.1.1 C0.1.2.1 dX0_clear_26 (by decide) (fun c3 => ?_) (fun c3 => ?_)
        · rw [nI_leI (by omega) (by omega)] at c3
          obtain rfl : d = 0 := by omega
          refine lv_iload_n C0.1.1 C0.1.2.1 dX0_clear_55 rfl (lv_at hl 2 rfl) ?_
          exact vx_ret (gs_reti rk C0 hz (px_of hsp (by rw [key]; rfl) (by rw [key]; exact hT)) (Nat.le_of_ble_eq_true rfl) (Nat.le_of_ble_eq_true rfl) dX0_clear_56)
        · rw [nI_leI (by omega) (by omega)] at c3
          obtain ⟨d', rfl⟩ : ∃ d', d = d' + 1 := ⟨d - 1, by omega⟩
          refine lv_aload_n C0.1.1 C0.1.2.1 dX0_clear_29 rfl (lv_at hl 0 rfl) ?_
          refine gs_callVi (w := xw G q) (wr := []) C0.1 (k_greatestGap l G q rk T hT hIT.J) (cwV 0 C0.1.2.2.2.2 gX0_clear_X0_greatestGap rfl rfl rfl (by decide +kernel) ⟨Nat.le_of_ble_eq_true rfl, Nat.le_of_ble_eq_true rfl⟩) (ci := 0) rfl rfl rfl (gs_nil hz) rfl hl.1 rfl (Nat.le_of_ble_eq_true rfl) dX0_clear_30 ⟨Nat.le_of_ble_eq_true rfl, Nat.le_of_ble_eq_true rfl⟩ (fun res u9 H locs hp9 hz => ?_)
          replace hz := gs_unnil hz
          rw [hp9.1] at hz
          refine gs_eq (y := nI (hs_gg T)) (hp9.2) ?_
          clear hp9
          refine lv_iload_n C0.1.1 C0.1.2.1 dX0_clear_33 rfl (lv_at hl 1 rfl) ?_
          refine lv_icmp_ge (tgt := 55) C0.1.1 C0.1.2.1 dX0_clear_34 (by decide) (fun c4 => ?_) (fun c4 => ?_)
          · rw [nI_leI (by omega) (by omega)] at c4
            rw [hs_cl_g (S := T) (d := d' + 1) (k := k) (by omega)] at key
            refine lv_iload_n C0.1.1 C0.1.2.1 dX0_clear_55 rfl (lv_at hl 2 rfl) ?_
            exact vx_ret (gs_reti rk C0 hz (px_of hsp (by rw [key]) (by rw [key]; exact hT)) (Nat.le_of_ble_eq_true rfl) (Nat.le_of_ble_eq_true rfl) dX0_clear_56)
          · rw [nI_leI (by omega) (by omega)] at c4
            refine lv_aload_n C0.1.1 C0.1.2.1 dX0_clear_37 rfl (lv_at hl 0 rfl) ?_
            refine lv_iconst (v := (-1)) C0.1.1 C0.1.2.1 dX0_clear_38 (by decide) ?_
            refine gs_callVi (w := xw G q) (wr := []) C0.1 (k_giveUpFirst l G q rk T hT hIT.J 48 (-1) (Or.inr ⟨rfl, rfl⟩)) (cwV 1 C0.1.2.2.2.2 gX0_clear_X0_giveUpFirst rfl rfl rfl (by decide +kernel) ⟨Nat.le_of_ble_eq_true rfl, Nat.le_of_ble_eq_true rfl⟩) (ci := 0) rfl rfl rfl (gs_nil hz) rfl hl.1 rfl (Nat.le_of_ble_eq_true rfl) dX0_clear_39 ⟨Nat.le_of_ble_eq_true rfl, Nat.le_of_ble_eq_true rfl⟩ (fun res u H locs hp hz => ?_)
            replace hz := gs_unnil hz
            rcases op_cases (hs_l1 T 48) with ⟨h, h1⟩ | h1
            · skip
              rw [h1] at hp
              obtain ⟨hp1, hp2⟩ := hp
              refine gs_eq (y := nI 1) hp1 ?_
              refine lv_if_eq (tgt := 55) C0.1.1 C0.1.2.1 dX0_clear_42 (by decide) (fun c5 => ?_) (fun c5 => ?_)
              · rw [n0_eq (by omega)] at c5
                exact absurd c5 (by decide)
              · rw [n0_eq (by omega)] at c5
                refine lv_aload_n C0.1.1 C0.1.2.1 dX0_clear_45 rfl (lv_at hl 0 rfl) ?_
                refine gs_callVv (w := xw G q) (wr := []) C0.1 (k_slideTogether l G q u _ hp2 (hs_gu_I hIT)) (cwV 0 C0.1.2.2.2.2 gX0_clear_X0_slideTogether rfl rfl rfl (by decide +kernel) ⟨Nat.le_of_ble_eq_true rfl, Nat.le_of_ble_eq_true rfl⟩) (ci := 0) rfl rfl rfl (gs_nil hz) rfl hl.1 rfl (Nat.le_of_ble_eq_true rfl) dX0_clear_46 ⟨Nat.le_of_ble_eq_true rfl, Nat.le_of_ble_eq_true rfl⟩ (fun u2 H locs hp hz => ?_)
                replace hz := gs_unnil hz
                refine lv_iinc (v := nI (k + 1)) (lv' := [(2, .int (nI (k + 1))), (0, .ref (q 0)), (1, .int (nI n))]) C0.1.1 C0.1.2.1 dX0_clear_49 hl (k := 2) rfl (nI_1 k) (by decide) rfl (fun ls hl => ?_)
                refine lv_goto (tgt := 23) C0.1.1 C0.1.2.1 dX0_clear_52 (by decide) ?_
                have hl : lv_has ls 3 [(0, .ref (q 0)), (1, .int (nI n)), (2, .int (nI (k + 1)))] := lv_sub hl [1, 2, 0] rfl
                exact ih d' (by omega) (k + 1) _ u2 ls _ _ hz (by omega) hp (hs_sl_I (hs_gu_I hIT)) (by rw [key, hs_cl_s (S := T) (d := d') (k := k) (by omega) h1]) hl
            · skip
              rw [h1] at hp
              obtain ⟨hp1, hp2⟩ := hp
              rw [hp2] at hz
              refine gs_eq (y := nI 0) hp1 ?_
              rw [hs_cl_n (S := T) (d := d' + 1) (k := k) h1] at key
              refine lv_if_eq (tgt := 55) C0.1.1 C0.1.2.1 dX0_clear_42 (by decide) (fun c5 => ?_) (fun c5 => ?_)
              · rw [n0_eq (by omega)] at c5
                refine lv_iload_n C0.1.1 C0.1.2.1 dX0_clear_55 rfl (lv_at hl 2 rfl) ?_
                exact vx_ret (gs_reti rk C0 hz (px_of hsp (by rw [key]) (by rw [key]; exact hT)) (Nat.le_of_ble_eq_true rfl) (Nat.le_of_ble_eq_true rfl) dX0_clear_56)
              · rw [n0_eq (by omega)] at c5
                exact absurd rfl c5
    · rw [nI_leI (by omega) (by omega)] at c2
      exact gs_throw (cls := "java/lang/IllegalArgumentException") (text := "n is not 0 to 1024") C0 hst hz hxz (ex1 (sp_clear_x (fun ⟨k, _, h2, h3⟩ => by rw [nI_eq hn0 (by omega)] at h3; omega)) rfl) (Or.inl rfl) (by decide) (C0.1.2.2.2.2 (.classLink RX0 104 "java/lang/IllegalArgumentException") (by decide +kernel)) (C0.1.2.2.2.2 (.initialized "java/lang/IllegalArgumentException") (by decide +kernel)) (fun w hw => C0.1.2.2.2.2 w (List.mem_cons_of_mem _ (List.mem_append_left _ (List.mem_append_right _ (hw))))) (by decide +kernel) (by decide +kernel) hl.1 dX0_clear_11 dX0_clear_14 dX0_clear_15 dX0_clear_17 dX0_clear_20 (Nat.le_of_ble_eq_true rfl) (Nat.le_of_ble_eq_true rfl) (Nat.le_of_ble_eq_true rfl) (Nat.le_of_ble_eq_true rfl) (Nat.le_of_ble_eq_true rfl) (Nat.le_of_ble_eq_true rfl)
set_option maxHeartbeats 4000000 in
set_option maxRecDepth 100000 in
/-- put -/
theorem k_put (l : Launch) (hst : l.stackTraces = false) (G : gs_G) (q : Nat → Nat) (r : xr) (S : hs_S) (hS : rx S r) (hI : hs_I S) (x i v : Int32) : gx_i l yX0_put wsX0_put (gm_rm 10 4 24) G (xw G q) r [.ref (q 0), .int x, .int i, .int v] (fun res u => px (sp_put S x i v) res u) (fun E => (sp_put S x i v).1 ≠ 0 ∧ ex (sp_put S x i v).1 E) 4 24 := by
  refine gx_i.of (cc := cX0_put) (nL := 6) (ret := (some .int)) (by decide +kernel) rfl (Nat.le_of_ble_eq_true rfl) ?_
  intro p e s m args below meth c ls C0 hz hxz hl
  have hin : ∀ w ∈ wsX00, w ∈ wsX0_put := by decide +kernel
  have l_ln : Cond.fieldLink RX0 22 "HandleHeap" "length" "[I" ∈ wsX0_put := by decide +kernel
  have l_bg : Cond.fieldLink RX0 13 "HandleHeap" "begin" "[I" ∈ wsX0_put := by decide +kernel
  have l_hp : Cond.fieldLink RX0 9 "HandleHeap" "heap" "[I" ∈ wsX0_put := by decide +kernel
  have hl : lv_has ls 6 [(0, .ref (q 0)), (1, .int x), (2, .int i), (3, .int v)] := hl
  refine lv_iload_n C0.1.1 C0.1.2.1 dX0_put_0 rfl (lv_at hl 3 rfl) ?_
  refine lv_if_lt (tgt := 11) C0.1.1 C0.1.2.1 dX0_put_1 (by decide) (fun c1 => ?_) (fun c1 => ?_)
  · skip
    exact gs_throw (cls := "java/lang/IllegalArgumentException") (text := "v is not 0 to 255") C0 hst hz hxz (ex1 (sp_put_x (fun ⟨k, _, h2, h3⟩ => by rw [h3] at c1; exact nI_pos (by omega) c1)) rfl) (Or.inl rfl) (by decide) (C0.1.2.2.2.2 (.classLink RX0 104 "java/lang/IllegalArgumentException") (by decide +kernel)) (C0.1.2.2.2.2 (.initialized "java/lang/IllegalArgumentException") (by decide +kernel)) (fun w hw => C0.1.2.2.2.2 w (List.mem_cons_of_mem _ (List.mem_append_left _ (List.mem_append_left _ (List.mem_append_left _ (List.mem_append_right _ (hw))))))) (by decide +kernel) (by decide +kernel) hl.1 dX0_put_11 dX0_put_14 dX0_put_15 dX0_put_17 dX0_put_20 (Nat.le_of_ble_eq_true rfl) (Nat.le_of_ble_eq_true rfl) (Nat.le_of_ble_eq_true rfl) (Nat.le_of_ble_eq_true rfl) (Nat.le_of_ble_eq_true rfl) (Nat.le_of_ble_eq_true rfl)
  · skip
    obtain ⟨n, hn0, rfl⟩ := nI_of c1
    refine lv_iload_n C0.1.1 C0.1.2.1 dX0_put_4 rfl (lv_at hl 3 rfl) ?_
    refine lv_sipush (v := nI 255) C0.1.1 C0.1.2.1 dX0_put_5 (by decide) ?_
    refine lv_icmp_le (tgt := 21) C0.1.1 C0.1.2.1 dX0_put_8 (by decide) (fun c2 => ?_) (fun c2 => ?_)
    · rw [nI_leI (by omega) (by omega)] at c2
      have hsp := sp_put_h (S := S) (x := x) (i := i) c2
      refine lv_aload_n C0.1.1 C0.1.2.1 dX0_put_21 rfl (lv_at hl 0 rfl) ?_
      refine lv_iload_n C0.1.1 C0.1.2.1 dX0_put_22 rfl (lv_at hl 1 rfl) ?_
      refine gx_callVv (w := xw G q) (wr := []) C0.1 (k_checkHasBlock l hst G q r S hS hI x) (cwV 1 C0.1.2.2.2.2 gX0_put_X0_checkHasBlock rfl rfl rfl (by decide +kernel) ⟨Nat.le_of_ble_eq_true rfl, Nat.le_of_ble_eq_true rfl⟩) (ci := 0) rfl rfl rfl (gs_nil hz) hxz rfl hl.1 rfl (Nat.le_of_ble_eq_true rfl) dX0_put_23 ⟨Nat.le_of_ble_eq_true rfl, Nat.le_of_ble_eq_true rfl⟩ (fun E ce q9 H locs hE hz hce hcv hcl => gs_pass C0 (by rw [hsp]; exact sp_has_x hE) (gs_unnil hz) hce hcv hcl (Nat.le_of_ble_eq_true rfl) (Nat.le_of_ble_eq_true rfl)) (fun u9 H locs hp9 hz => ?_)
      replace hz := gs_unnil hz
      rw [hp9.1] at hz
      obtain ⟨-, h, hh, rfl, hu⟩ := hp9
      rw [sp_has_h hh hu] at hsp
      have hbn := hI.bn hh hu
      refine lv_iload_n C0.1.1 C0.1.2.1 dX0_put_26 rfl (lv_at hl 2 rfl) ?_
      refine lv_aload_n C0.1.1 C0.1.2.1 dX0_put_27 rfl (lv_at hl 0 rfl) ?_
      refine xg_ln C0 hin hz l_ln dX0_put_28 ?_
      refine lv_iload_n C0.1.1 C0.1.2.1 dX0_put_31 rfl (lv_at hl 1 rfl) ?_
      refine xl_ln C0 hz h (by omega) rfl dX0_put_32 ?_
      refine gs_eq (y := nI (hs_n S h)) (hS.2.1 h hh) ?_
      refine gx_callSv (w := xw G q) (wr := []) C0.1 (k_checkByte l hst G q r i (hs_n S h) (by omega)) (va_cwS 2 C0.1.2.2.2.2 gX0_put_X0_checkByte rfl rfl rfl (by decide +kernel) ⟨Nat.le_of_ble_eq_true rfl, Nat.le_of_ble_eq_true rfl⟩) (gs_nil hz) hxz rfl hl.1 rfl (Nat.le_of_ble_eq_true rfl) dX0_put_33 ⟨Nat.le_of_ble_eq_true rfl, Nat.le_of_ble_eq_true rfl⟩ (fun E ce q9 H locs hE hz hce hcv hcl => gs_pass C0 (ex3 (hsp.trans (if_neg (fun z => hE.2 ((ib_iff (by omega)).mp z)))) hE.1) (gs_unnil hz) hce hcv hcl (Nat.le_of_ble_eq_true rfl) (Nat.le_of_ble_eq_true rfl)) (fun u9 H locs hp9 hz => ?_)
      replace hz := gs_unnil hz
      rw [hp9.1] at hz
      obtain ⟨-, j, hj, rfl⟩ := hp9
      rw [if_pos ((ib_iff (by omega)).mpr ⟨j, hj, rfl⟩), nI_clamp (by omega)] at hsp
      refine lv_aload_n C0.1.1 C0.1.2.1 dX0_put_36 rfl (lv_at hl 0 rfl) ?_
      refine xg_bg C0 hin hz l_bg dX0_put_37 ?_
      refine lv_iload_n C0.1.1 C0.1.2.1 dX0_put_40 rfl (lv_at hl 1 rfl) ?_
      refine xl_bg C0 hz h (by omega) rfl dX0_put_41 ?_
      refine gs_eq (y := nI (hs_b S h)) ((hS.1 h hh).trans (xb_2 hu)) ?_
      refine lv_iload_n C0.1.1 C0.1.2.1 dX0_put_42 rfl (lv_at hl 2 rfl) ?_
      refine lv_iadd C0.1.1 C0.1.2.1 dX0_put_43 ?_
      refine gs_eq (nI_add (hs_b S h) j) ?_
      refine lv_istore (lv' := [(4, .int (nI ((hs_b S h) + j))), (0, .ref (q 0)), (1, .int (nI h)), (2, .int (nI j)), (3, .int (nI n))]) C0.1.1 C0.1.2.1 dX0_put_44 hl (by decide) rfl (fun ls hl => ?_)
      refine lv_aload_n C0.1.1 C0.1.2.1 dX0_put_46 rfl (lv_at hl 1 rfl) ?_
      refine xg_hp C0 hin hz l_hp dX0_put_47 ?_
      refine lv_iload C0.1.1 C0.1.2.1 dX0_put_50 (lv_at hl 0 rfl) ?_
      refine xl_hp C0 hz ((hs_b S h) + j) (by omega) rfl dX0_put_52 ?_
      refine gs_eq (y := hs_y S h j) (hS.2.2.2.2.1 h hh hu j hj) ?_
      refine lv_istore (lv' := [(5, .int (hs_y S h j)), (4, .int (nI ((hs_b S h) + j))), (0, .ref (q 0)), (1, .int (nI h)), (2, .int (nI j)), (3, .int (nI n))]) C0.1.1 C0.1.2.1 dX0_put_53 hl (by decide) rfl (fun ls hl => ?_)
      refine lv_aload_n C0.1.1 C0.1.2.1 dX0_put_55 rfl (lv_at hl 2 rfl) ?_
      refine xg_hp C0 hin hz l_hp dX0_put_56 ?_
      refine lv_iload C0.1.1 C0.1.2.1 dX0_put_59 (lv_at hl 1 rfl) ?_
      refine lv_iload_n C0.1.1 C0.1.2.1 dX0_put_61 rfl (lv_at hl 5 rfl) ?_
      refine xt_hp C0 hz ((hs_b S h) + j) (by omega) rfl dX0_put_62 (fun H locs hz => ?_)
      refine lv_iload C0.1.1 C0.1.2.1 dX0_put_63 (lv_at hl 0 rfl) ?_
      exact vx_ret (gs_reti (xs_hp r (upd (x_hp r) ((hs_b S h) + j) (nI n))) C0 hz (px_of hsp rfl (rx_put hS hI hh hu hj)) (Nat.le_of_ble_eq_true rfl) (Nat.le_of_ble_eq_true rfl) dX0_put_65)
    · rw [nI_leI (by omega) (by omega)] at c2
      exact gs_throw (cls := "java/lang/IllegalArgumentException") (text := "v is not 0 to 255") C0 hst hz hxz (ex1 (sp_put_x (fun ⟨k, _, h2, h3⟩ => by rw [nI_eq hn0 (by omega)] at h3; omega)) rfl) (Or.inl rfl) (by decide) (C0.1.2.2.2.2 (.classLink RX0 104 "java/lang/IllegalArgumentException") (by decide +kernel)) (C0.1.2.2.2.2 (.initialized "java/lang/IllegalArgumentException") (by decide +kernel)) (fun w hw => C0.1.2.2.2.2 w (List.mem_cons_of_mem _ (List.mem_append_left _ (List.mem_append_left _ (List.mem_append_left _ (List.mem_append_right _ (hw))))))) (by decide +kernel) (by decide +kernel) hl.1 dX0_put_11 dX0_put_14 dX0_put_15 dX0_put_17 dX0_put_20 (Nat.le_of_ble_eq_true rfl) (Nat.le_of_ble_eq_true rfl) (Nat.le_of_ble_eq_true rfl) (Nat.le_of_ble_eq_true rfl) (Nat.le_of_ble_eq_true rfl) (Nat.le_of_ble_eq_true rfl)
set_option maxHeartbeats 4000000 in
set_option maxRecDepth 100000 in
/-- get -/
theorem k_get (l : Launch) (hst : l.stackTraces = false) (G : gs_G) (q : Nat → Nat) (r : xr) (S : hs_S) (hS : rx S r) (hI : hs_I S) (x i : Int32) : gx_i l yX0_get wsX0_get (gm_rm 10 4 24) G (xw G q) r [.ref (q 0), .int x, .int i] (fun res u => px (sp_get S x i) res u) (fun E => (sp_get S x i).1 ≠ 0 ∧ ex (sp_get S x i).1 E) 4 24 := by
  refine gx_i.of (cc := cX0_get) (nL := 3) (ret := (some .int)) (by decide +kernel) rfl (Nat.le_of_ble_eq_true rfl) ?_
  intro p e s m args below meth c ls C0 hz hxz hl
  have hin : ∀ w ∈ wsX00, w ∈ wsX0_get := by decide +kernel
  have l_ln : Cond.fieldLink RX0 22 "HandleHeap" "length" "[I" ∈ wsX0_get := by decide +kernel
  have l_hp : Cond.fieldLink RX0 9 "HandleHeap" "heap" "[I" ∈ wsX0_get := by decide +kernel
  have l_bg : Cond.fieldLink RX0 13 "HandleHeap" "begin" "[I" ∈ wsX0_get := by decide +kernel
  have hl : lv_has ls 3 [(0, .ref (q 0)), (1, .int x), (2, .int i)] := hl
  refine lv_aload_n C0.1.1 C0.1.2.1 dX0_get_0 rfl (lv_at hl 0 rfl) ?_
  refine lv_iload_n C0.1.1 C0.1.2.1 dX0_get_1 rfl (lv_at hl 1 rfl) ?_
  refine gx_callVv (w := xw G q) (wr := []) C0.1 (k_checkHasBlock l hst G q r S hS hI x) (cwV 1 C0.1.2.2.2.2 gX0_get_X0_checkHasBlock rfl rfl rfl (by decide +kernel) ⟨Nat.le_of_ble_eq_true rfl, Nat.le_of_ble_eq_true rfl⟩) (ci := 0) rfl rfl rfl (gs_nil hz) hxz rfl hl.1 rfl (Nat.le_of_ble_eq_true rfl) dX0_get_2 ⟨Nat.le_of_ble_eq_true rfl, Nat.le_of_ble_eq_true rfl⟩ (fun E ce q9 H locs hE hz hce hcv hcl => gs_pass C0 (sp_has_x hE) (gs_unnil hz) hce hcv hcl (Nat.le_of_ble_eq_true rfl) (Nat.le_of_ble_eq_true rfl)) (fun u9 H locs hp9 hz => ?_)
  replace hz := gs_unnil hz
  rw [hp9.1] at hz
  obtain ⟨-, h, hh, rfl, hu⟩ := hp9
  have hsp : sp_get S (nI h) i = if 0 ≤ i ∧ i < nI (hs_n S h) then (0, hs_y S h i.toNatClampNeg, S) else (3, 0, S) := sp_has_h hh hu
  have hbn := hI.bn hh hu
  refine lv_iload_n C0.1.1 C0.1.2.1 dX0_get_5 rfl (lv_at hl 2 rfl) ?_
  refine lv_aload_n C0.1.1 C0.1.2.1 dX0_get_6 rfl (lv_at hl 0 rfl) ?_
  refine xg_ln C0 hin hz l_ln dX0_get_7 ?_
  refine lv_iload_n C0.1.1 C0.1.2.1 dX0_get_10 rfl (lv_at hl 1 rfl) ?_
  refine xl_ln C0 hz h (by omega) rfl dX0_get_11 ?_
  refine gs_eq (y := nI (hs_n S h)) (hS.2.1 h hh) ?_
  refine gx_callSv (w := xw G q) (wr := []) C0.1 (k_checkByte l hst G q r i (hs_n S h) (by omega)) (va_cwS 2 C0.1.2.2.2.2 gX0_get_X0_checkByte rfl rfl rfl (by decide +kernel) ⟨Nat.le_of_ble_eq_true rfl, Nat.le_of_ble_eq_true rfl⟩) (gs_nil hz) hxz rfl hl.1 rfl (Nat.le_of_ble_eq_true rfl) dX0_get_12 ⟨Nat.le_of_ble_eq_true rfl, Nat.le_of_ble_eq_true rfl⟩ (fun E ce q9 H locs hE hz hce hcv hcl => gs_pass C0 (ex3 (hsp.trans (if_neg (fun z => hE.2 ((ib_iff (by omega)).mp z)))) hE.1) (gs_unnil hz) hce hcv hcl (Nat.le_of_ble_eq_true rfl) (Nat.le_of_ble_eq_true rfl)) (fun u9 H locs hp9 hz => ?_)
  replace hz := gs_unnil hz
  rw [hp9.1] at hz
  obtain ⟨-, j, hj, rfl⟩ := hp9
  rw [if_pos ((ib_iff (by omega)).mpr ⟨j, hj, rfl⟩), nI_clamp (by omega)] at hsp
  refine lv_aload_n C0.1.1 C0.1.2.1 dX0_get_15 rfl (lv_at hl 0 rfl) ?_
  refine xg_hp C0 hin hz l_hp dX0_get_16 ?_
  refine lv_aload_n C0.1.1 C0.1.2.1 dX0_get_19 rfl (lv_at hl 0 rfl) ?_
  refine xg_bg C0 hin hz l_bg dX0_get_20 ?_
  refine lv_iload_n C0.1.1 C0.1.2.1 dX0_get_23 rfl (lv_at hl 1 rfl) ?_
  refine xl_bg C0 hz h (by omega) rfl dX0_get_24 ?_
  refine gs_eq (y := nI (hs_b S h)) ((hS.1 h hh).trans (xb_2 hu)) ?_
  refine lv_iload_n C0.1.1 C0.1.2.1 dX0_get_25 rfl (lv_at hl 2 rfl) ?_
  refine lv_iadd C0.1.1 C0.1.2.1 dX0_get_26 ?_
  refine gs_eq (nI_add (hs_b S h) j) ?_
  refine xl_hp C0 hz ((hs_b S h) + j) (by omega) rfl dX0_get_27 ?_
  refine gs_eq (y := hs_y S h j) (hS.2.2.2.2.1 h hh hu j hj) ?_
  exact vx_ret (gs_reti r C0 hz (px_of hsp rfl hS) (Nat.le_of_ble_eq_true rfl) (Nat.le_of_ble_eq_true rfl) dX0_get_28)
set_option maxHeartbeats 4000000 in
set_option maxRecDepth 100000 in
/-- owner -/
theorem k_owner (l : Launch) (hst : l.stackTraces = false) (G : gs_G) (q : Nat → Nat) (r : xr) (S : hs_S) (hS : rx S r) (hI : hs_I S) (x : Int32) : gx_i l yX0_owner wsX0_owner (gm_rm 10 4 24) G (xw G q) r [.ref (q 0), .int x] (fun res u => px (sp_owner S x) res u) (fun E => (sp_owner S x).1 = 1 ∧ E = xIO) 4 24 := by
  refine gx_i.of (cc := cX0_owner) (nL := 4) (ret := (some .int)) (by decide +kernel) rfl (Nat.le_of_ble_eq_true rfl) ?_
  intro p e s m args below meth c ls C0 hz hxz hl
  have hin : ∀ w ∈ wsX00, w ∈ wsX0_owner := by decide +kernel
  have l_nb : Cond.fieldLink RX0 38 "HandleHeap" "blocks" "I" ∈ wsX0_owner := by decide +kernel
  have l_rw : Cond.fieldLink RX0 35 "HandleHeap" "row" "[I" ∈ wsX0_owner := by decide +kernel
  have l_bg : Cond.fieldLink RX0 13 "HandleHeap" "begin" "[I" ∈ wsX0_owner := by decide +kernel
  have hl : lv_has ls 4 [(0, .ref (q 0)), (1, .int x)] := hl
  have hlen := hI.J.len
  refine lv_iload_n C0.1.1 C0.1.2.1 dX0_owner_0 rfl (lv_at hl 1 rfl) ?_
  refine lv_sipush (v := nI 1024) C0.1.1 C0.1.2.1 dX0_owner_1 (by decide) ?_
  refine gx_callSv (w := xw G q) (wr := []) C0.1 (k_checkByte l hst G q r x 1024 (by decide)) (va_cwS 2 C0.1.2.2.2.2 gX0_owner_X0_checkByte rfl rfl rfl (by decide +kernel) ⟨Nat.le_of_ble_eq_true rfl, Nat.le_of_ble_eq_true rfl⟩) (gs_nil hz) hxz rfl hl.1 rfl (Nat.le_of_ble_eq_true rfl) dX0_owner_4 ⟨Nat.le_of_ble_eq_true rfl, Nat.le_of_ble_eq_true rfl⟩ (fun E ce q9 H locs hE hz hce hcv hcl => gs_pass C0 (⟨by rw [sp_owner_x hE.2], hE.1⟩) (gs_unnil hz) hce hcv hcl (Nat.le_of_ble_eq_true rfl) (Nat.le_of_ble_eq_true rfl)) (fun u9 H locs hp9 hz => ?_)
  replace hz := gs_unnil hz
  rw [hp9.1] at hz
  obtain ⟨-, a, ha, rfl⟩ := hp9
  have hsp := sp_owner_h (S := S) ha
  refine lv_iconst (v := nI 0) C0.1.1 C0.1.2.1 dX0_owner_7 (by decide) ?_
  refine lv_istore_n (lv' := [(2, .int (nI 0)), (0, .ref (q 0)), (1, .int (nI a))]) C0.1.1 C0.1.2.1 dX0_owner_8 rfl hl (by decide) rfl (fun ls hl => ?_)
  have hl : lv_has ls 4 [(0, .ref (q 0)), (1, .int (nI a)), (2, .int (nI 0))] := lv_sub hl [1, 2, 0] rfl
  refine (?loop : ∀ (d k : Nat) (ls : Array Slot) (H : Heap) (locs : List Loc), gs_Z G (xw G q r) _ s H locs → k + d = (hs_R S).length → hs_ow S a (hs_R S).length 0 = hs_ow S a d k → lv_has ls 4 [(0, .ref (q 0)), (1, .int (nI a)), (2, .int (nI k))] → W p l e _ s m args below meth c H locs (0 + 1) (0 + 6) _ (F0 m 9 ls [])) _ 0 ls _ _ hz (Nat.zero_add _) rfl hl
  intro d
  induction d using Nat.strongRecOn with
  | _ d ih =>
    intro k ls H locs hz hd key hl
    refine lv_iload_n C0.1.1 C0.1.2.1 dX0_owner_9 rfl (lv_at hl 2 rfl) ?_
    refine lv_aload_n C0.1.1 C0.1.2.1 dX0_owner_10 rfl (lv_at hl 0 rfl) ?_
    refine xg_nb C0 hin hz l_nb dX0_owner_11 ?_
    refine gs_eq (y := nI ((hs_R S).length)) (hS.2.2.2.1.1) ?_
    refine lv_icmp_ge (tgt := 51) C0.1.1 C0.1.2.1 dX0_owner_14 (by decide) (fun c1 => ?_) (fun c1 => ?_)
    · rw [nI_leI (by omega) (by omega)] at c1
      obtain rfl : d = 0 := by omega
      refine lv_iconst (v := (-1)) C0.1.1 C0.1.2.1 dX0_owner_51 (by decide) ?_
      exact vx_ret (gs_reti r C0 hz (px_of hsp (by rw [key]; rfl) hS) (Nat.le_of_ble_eq_true rfl) (Nat.le_of_ble_eq_true rfl) dX0_owner_52)
    · rw [nI_leI (by omega) (by omega)] at c1
      obtain ⟨d', rfl⟩ : ∃ d', d = d' + 1 := ⟨d - 1, by omega⟩
      have hk1 : k < (hs_R S).length := by omega
      have hat := hI.J.at hk1
      have hbn := hI.bn hat.1 hat.2
      refine lv_aload_n C0.1.1 C0.1.2.1 dX0_owner_17 rfl (lv_at hl 0 rfl) ?_
      refine xg_rw C0 hin hz l_rw dX0_owner_18 ?_
      refine lv_iload_n C0.1.1 C0.1.2.1 dX0_owner_21 rfl (lv_at hl 2 rfl) ?_
      refine xl_rw C0 hz k (by omega) rfl dX0_owner_22 ?_
      refine gs_eq (y := nI (hg_at (hs_R S) k)) (hS.2.2.2.1.2 _ hk1) ?_
      refine lv_istore_n (lv' := [(3, .int (nI (hg_at (hs_R S) k))), (0, .ref (q 0)), (1, .int (nI a)), (2, .int (nI k))]) C0.1.1 C0.1.2.1 dX0_owner_23 rfl hl (by decide) rfl (fun ls hl => ?_)
      refine lv_aload_n C0.1.1 C0.1.2.1 dX0_owner_24 rfl (lv_at hl 1 rfl) ?_
      refine xg_bg C0 hin hz l_bg dX0_owner_25 ?_
      refine lv_iload_n C0.1.1 C0.1.2.1 dX0_owner_28 rfl (lv_at hl 0 rfl) ?_
      refine xl_bg C0 hz (hg_at (hs_R S) k) (hat.1) rfl dX0_owner_29 ?_
      refine gs_eq (y := nI (hs_b S (hg_at (hs_R S) k))) ((hS.1 _ hat.1).trans (xb_2 hat.2)) ?_
      refine lv_iload_n C0.1.1 C0.1.2.1 dX0_owner_30 rfl (lv_at hl 2 rfl) ?_
      refine lv_icmp_gt (tgt := 45) C0.1.1 C0.1.2.1 dX0_owner_31 (by decide) (fun c2 => ?_) (fun c2 => ?_)
      · rw [nI_ltI (by omega) (by omega)] at c2
        refine lv_iinc (v := nI (k + 1)) (lv' := [(2, .int (nI (k + 1))), (3, .int (nI (hg_at (hs_R S) k))), (0, .ref (q 0)), (1, .int (nI a))]) C0.1.1 C0.1.2.1 dX0_owner_45 hl (k := 3) rfl (nI_1 k) (by decide) rfl (fun ls hl => ?_)
        refine lv_goto (tgt := 9) C0.1.1 C0.1.2.1 dX0_owner_48 (by decide) ?_
        have hl : lv_has ls 4 [(0, .ref (q 0)), (1, .int (nI a)), (2, .int (nI (k + 1)))] := lv_sub hl [2, 3, 0] rfl
        exact ih d' (by omega) (k + 1) ls _ _ hz (by omega) (by rw [key, hs_ow, if_neg (by omega)]) hl
      · rw [nI_ltI (by omega) (by omega)] at c2
        refine lv_iload_n C0.1.1 C0.1.2.1 dX0_owner_34 rfl (lv_at hl 2 rfl) ?_
        refine lv_aload_n C0.1.1 C0.1.2.1 dX0_owner_35 rfl (lv_at hl 1 rfl) ?_
        refine lv_iload_n C0.1.1 C0.1.2.1 dX0_owner_36 rfl (lv_at hl 0 rfl) ?_
        refine gs_callVi (w := xw G q) (wr := []) C0.1 (k_endOf l G q r (hg_at (hs_R S) k) hat.1) (cwV 1 C0.1.2.2.2.2 gX0_owner_X0_endOf rfl rfl rfl (by decide +kernel) ⟨Nat.le_of_ble_eq_true rfl, Nat.le_of_ble_eq_true rfl⟩) (ci := 0) rfl rfl rfl (gs_nil hz) rfl hl.1 rfl (Nat.le_of_ble_eq_true rfl) dX0_owner_37 ⟨Nat.le_of_ble_eq_true rfl, Nat.le_of_ble_eq_true rfl⟩ (fun res u9 H locs hp9 hz => ?_)
        replace hz := gs_unnil hz
        rw [hp9.1] at hz
        refine gs_eq (y := nI (hs_b S (hg_at (hs_R S) k) + hs_n S (hg_at (hs_R S) k))) (by rw [hp9.2, hS.1 _ hat.1, hS.2.1 _ hat.1, xb_2 hat.2, nI_add]) ?_
        clear hp9
        refine lv_icmp_ge (tgt := 45) C0.1.1 C0.1.2.1 dX0_owner_40 (by decide) (fun c3 => ?_) (fun c3 => ?_)
        · rw [nI_leI (by omega) (by omega)] at c3
          refine lv_iinc (v := nI (k + 1)) (lv' := [(2, .int (nI (k + 1))), (3, .int (nI (hg_at (hs_R S) k))), (0, .ref (q 0)), (1, .int (nI a))]) C0.1.1 C0.1.2.1 dX0_owner_45 hl (k := 3) rfl (nI_1 k) (by decide) rfl (fun ls hl => ?_)
          refine lv_goto (tgt := 9) C0.1.1 C0.1.2.1 dX0_owner_48 (by decide) ?_
          have hl : lv_has ls 4 [(0, .ref (q 0)), (1, .int (nI a)), (2, .int (nI (k + 1)))] := lv_sub hl [2, 3, 0] rfl
          exact ih d' (by omega) (k + 1) ls _ _ hz (by omega) (by rw [key, hs_ow, if_neg (by omega)]) hl
        · rw [nI_leI (by omega) (by omega)] at c3
          refine lv_iload_n C0.1.1 C0.1.2.1 dX0_owner_43 rfl (lv_at hl 0 rfl) ?_
          exact vx_ret (gs_reti r C0 hz (px_of hsp (by rw [key, hs_ow, if_pos (by omega)]; rfl) hS) (Nat.le_of_ble_eq_true rfl) (Nat.le_of_ble_eq_true rfl) dX0_owner_44)
theorem tw_out {x : Int32} (h : ¬ ∃ k, 0 ≤ k ∧ k ≤ 6 ∧ x = nI k) : x.toInt < 0 ∨ 6 < x.toInt := by
  by_cases q : x < 0
  · left
    rw [Int32.lt_iff_toInt_lt] at q
    exact q
  · right
    obtain ⟨j, hj, rfl⟩ := nI_of q
    rw [nI_toInt hj]
    have : ¬ j ≤ 6 := fun z => h ⟨j, Nat.zero_le _, z, rfl⟩
    omega
set_option maxHeartbeats 4000000 in
set_option maxRecDepth 100000 in
/-- told -/
theorem k_told (l : Launch) (hst : l.stackTraces = false) (G : gs_G) (q : Nat → Nat) (r : xr) (S : hs_S) (hS : rx S r) (hI : hs_I S) (x : Int32) : gx_i l yX0_told wsX0_told (gm_rm 10 4 24) G (xw G q) r [.ref (q 0), .int x] (fun res u => px (sp_told S x) res u) (fun E => (sp_told S x).1 ≠ 0 ∧ ex (sp_told S x).1 E) 4 24 := by
  refine gx_i.of (cc := cX0_told) (nL := 2) (ret := (some .int)) (by decide +kernel) rfl (Nat.le_of_ble_eq_true rfl) ?_
  intro p e s m args below meth c ls C0 hz hxz hl
  have hin : ∀ w ∈ wsX00, w ∈ wsX0_told := by decide +kernel
  have l_mv : Cond.fieldLink RX0 42 "HandleHeap" "bytesMoved" "I" ∈ wsX0_told := by decide +kernel
  have l_lo : Cond.fieldLink RX0 45 "HandleHeap" "blocksLost" "I" ∈ wsX0_told := by decide +kernel
  have hl : lv_has ls 2 [(0, .ref (q 0)), (1, .int x)] := hl
  refine lv_iload_n C0.1.1 C0.1.2.1 dX0_told_0 rfl (lv_at hl 1 rfl) ?_
  rcases nd_cases 0 6 x (by decide) (by decide) with ⟨k, -, hk, rfl, -⟩ | ⟨-, hno⟩
  · skip
    rcases (show k = 0 ∨ k = 1 ∨ k = 2 ∨ k = 3 ∨ k = 4 ∨ k = 5 ∨ k = 6 by omega) with rfl | rfl | rfl | rfl | rfl | rfl | rfl
    · refine lv_tableIn (x := nI 0) (off := 43) (tgt := 44) C0.1.1 C0.1.2.1 dX0_told_1 (by decide) (by decide) (by decide) (by decide) ?_
      refine lv_aload_n C0.1.1 C0.1.2.1 dX0_told_44 rfl (lv_at hl 0 rfl) ?_
      refine gs_callVi (w := xw G q) (wr := []) C0.1 (k_freeBytes l G q r S hS hI.J) (cwV 0 C0.1.2.2.2.2 gX0_told_X0_freeBytes rfl rfl rfl (by decide +kernel) ⟨Nat.le_of_ble_eq_true rfl, Nat.le_of_ble_eq_true rfl⟩) (ci := 0) rfl rfl rfl (gs_nil hz) rfl hl.1 rfl (Nat.le_of_ble_eq_true rfl) dX0_told_45 ⟨Nat.le_of_ble_eq_true rfl, Nat.le_of_ble_eq_true rfl⟩ (fun res u9 H locs hp9 hz => ?_)
      replace hz := gs_unnil hz
      rw [hp9.1] at hz
      refine gs_eq (y := nI (hs_sm S ((hs_R S).length + 1))) (hp9.2) ?_
      clear hp9
      exact vx_ret (gs_reti r C0 hz (px_of (t := sp_told S (nI 0)) rfl rfl hS) (Nat.le_of_ble_eq_true rfl) (Nat.le_of_ble_eq_true rfl) dX0_told_48)
    · refine lv_tableIn (x := nI 1) (off := 48) (tgt := 49) C0.1.1 C0.1.2.1 dX0_told_1 (by decide) (by decide) (by decide) (by decide) ?_
      refine lv_aload_n C0.1.1 C0.1.2.1 dX0_told_49 rfl (lv_at hl 0 rfl) ?_
      refine gs_callVi (w := xw G q) (wr := []) C0.1 (k_greatestGap l G q r S hS hI.J) (cwV 0 C0.1.2.2.2.2 gX0_told_X0_greatestGap rfl rfl rfl (by decide +kernel) ⟨Nat.le_of_ble_eq_true rfl, Nat.le_of_ble_eq_true rfl⟩) (ci := 0) rfl rfl rfl (gs_nil hz) rfl hl.1 rfl (Nat.le_of_ble_eq_true rfl) dX0_told_50 ⟨Nat.le_of_ble_eq_true rfl, Nat.le_of_ble_eq_true rfl⟩ (fun res u9 H locs hp9 hz => ?_)
      replace hz := gs_unnil hz
      rw [hp9.1] at hz
      refine gs_eq (y := nI (hs_gg S)) (hp9.2) ?_
      clear hp9
      exact vx_ret (gs_reti r C0 hz (px_of (t := sp_told S (nI 1)) rfl rfl hS) (Nat.le_of_ble_eq_true rfl) (Nat.le_of_ble_eq_true rfl) dX0_told_53)
    · refine lv_tableIn (x := nI 2) (off := 53) (tgt := 54) C0.1.1 C0.1.2.1 dX0_told_1 (by decide) (by decide) (by decide) (by decide) ?_
      refine lv_aload_n C0.1.1 C0.1.2.1 dX0_told_54 rfl (lv_at hl 0 rfl) ?_
      refine gs_callVi (w := xw G q) (wr := []) C0.1 (k_countGaps l G q r S hS hI.J) (cwV 0 C0.1.2.2.2.2 gX0_told_X0_countGaps rfl rfl rfl (by decide +kernel) ⟨Nat.le_of_ble_eq_true rfl, Nat.le_of_ble_eq_true rfl⟩) (ci := 0) rfl rfl rfl (gs_nil hz) rfl hl.1 rfl (Nat.le_of_ble_eq_true rfl) dX0_told_55 ⟨Nat.le_of_ble_eq_true rfl, Nat.le_of_ble_eq_true rfl⟩ (fun res u9 H locs hp9 hz => ?_)
      replace hz := gs_unnil hz
      rw [hp9.1] at hz
      refine gs_eq (y := nI (hs_ct S ((hs_R S).length + 1))) (hp9.2) ?_
      clear hp9
      exact vx_ret (gs_reti r C0 hz (px_of (t := sp_told S (nI 2)) rfl rfl hS) (Nat.le_of_ble_eq_true rfl) (Nat.le_of_ble_eq_true rfl) dX0_told_58)
    · refine lv_tableIn (x := nI 3) (off := 58) (tgt := 59) C0.1.1 C0.1.2.1 dX0_told_1 (by decide) (by decide) (by decide) (by decide) ?_
      have hcn := hs_cn_le (hs_u S) 0 48
      refine lv_bipush (v := nI 48) C0.1.1 C0.1.2.1 dX0_told_59 (by decide) ?_
      refine lv_aload_n C0.1.1 C0.1.2.1 dX0_told_61 rfl (lv_at hl 0 rfl) ?_
      refine lv_iconst (v := (-1)) C0.1.1 C0.1.2.1 dX0_told_62 (by decide) ?_
      refine gs_eq (y := xb 0 0) (rfl) ?_
      refine gs_callVi (w := xw G q) (wr := []) C0.1 (k_countHandles l G q r S hS hI 0 (by decide)) (cwV 1 C0.1.2.2.2.2 gX0_told_X0_countHandles rfl rfl rfl (by decide +kernel) ⟨Nat.le_of_ble_eq_true rfl, Nat.le_of_ble_eq_true rfl⟩) (ci := 0) rfl rfl rfl (gs_nil hz) rfl hl.1 rfl (Nat.le_of_ble_eq_true rfl) dX0_told_63 ⟨Nat.le_of_ble_eq_true rfl, Nat.le_of_ble_eq_true rfl⟩ (fun res u9 H locs hp9 hz => ?_)
      replace hz := gs_unnil hz
      rw [hp9.1] at hz
      refine gs_eq (y := nI (hs_cn (hs_u S) 0 48)) (hp9.2) ?_
      clear hp9
      refine lv_isub C0.1.1 C0.1.2.1 dX0_told_66 ?_
      refine gs_eq (pk_sub (by omega)) ?_
      exact vx_ret (gs_reti r C0 hz (px_of (t := sp_told S (nI 3)) rfl rfl hS) (Nat.le_of_ble_eq_true rfl) (Nat.le_of_ble_eq_true rfl) dX0_told_67)
    · refine lv_tableIn (x := nI 4) (off := 67) (tgt := 68) C0.1.1 C0.1.2.1 dX0_told_1 (by decide) (by decide) (by decide) (by decide) ?_
      refine lv_aload_n C0.1.1 C0.1.2.1 dX0_told_68 rfl (lv_at hl 0 rfl) ?_
      refine lv_bipush (v := (-2)) C0.1.1 C0.1.2.1 dX0_told_69 (by decide) ?_
      refine gs_eq (y := xb 1 0) (rfl) ?_
      refine gs_callVi (w := xw G q) (wr := []) C0.1 (k_countHandles l G q r S hS hI 1 (by decide)) (cwV 1 C0.1.2.2.2.2 gX0_told_X0_countHandles rfl rfl rfl (by decide +kernel) ⟨Nat.le_of_ble_eq_true rfl, Nat.le_of_ble_eq_true rfl⟩) (ci := 0) rfl rfl rfl (gs_nil hz) rfl hl.1 rfl (Nat.le_of_ble_eq_true rfl) dX0_told_71 ⟨Nat.le_of_ble_eq_true rfl, Nat.le_of_ble_eq_true rfl⟩ (fun res u9 H locs hp9 hz => ?_)
      replace hz := gs_unnil hz
      rw [hp9.1] at hz
      refine gs_eq (y := nI (hs_cn (hs_u S) 1 48)) (hp9.2) ?_
      clear hp9
      exact vx_ret (gs_reti r C0 hz (px_of (t := sp_told S (nI 4)) rfl rfl hS) (Nat.le_of_ble_eq_true rfl) (Nat.le_of_ble_eq_true rfl) dX0_told_74)
    · refine lv_tableIn (x := nI 5) (off := 74) (tgt := 75) C0.1.1 C0.1.2.1 dX0_told_1 (by decide) (by decide) (by decide) (by decide) ?_
      refine lv_aload_n C0.1.1 C0.1.2.1 dX0_told_75 rfl (lv_at hl 0 rfl) ?_
      refine xg_mv C0 hin hz l_mv dX0_told_76 ?_
      refine gs_eq (y := hs_m S) (hS.2.2.2.2.2.1) ?_
      exact vx_ret (gs_reti r C0 hz (px_of (t := sp_told S (nI 5)) rfl rfl hS) (Nat.le_of_ble_eq_true rfl) (Nat.le_of_ble_eq_true rfl) dX0_told_79)
    · refine lv_tableIn (x := nI 6) (off := 79) (tgt := 80) C0.1.1 C0.1.2.1 dX0_told_1 (by decide) (by decide) (by decide) (by decide) ?_
      refine lv_aload_n C0.1.1 C0.1.2.1 dX0_told_80 rfl (lv_at hl 0 rfl) ?_
      refine xg_lo C0 hin hz l_lo dX0_told_81 ?_
      refine gs_eq (y := hs_x S) (hS.2.2.2.2.2.2) ?_
      exact vx_ret (gs_reti r C0 hz (px_of (t := sp_told S (nI 6)) rfl rfl hS) (Nat.le_of_ble_eq_true rfl) (Nat.le_of_ble_eq_true rfl) dX0_told_84)
  · refine lv_tableOut (x := x) (tgt := 85) C0.1.1 C0.1.2.1 dX0_told_1 (tw_out hno) (by decide) ?_
    exact gs_throw (cls := "java/lang/IllegalArgumentException") (text := "what is not 0 to 6") C0 hst hz hxz (ex1 (sp_told_x hno) rfl) (Or.inl rfl) (by decide) (C0.1.2.2.2.2 (.classLink RX0 104 "java/lang/IllegalArgumentException") (by decide +kernel)) (C0.1.2.2.2.2 (.initialized "java/lang/IllegalArgumentException") (by decide +kernel)) (fun w hw => C0.1.2.2.2.2 w (List.mem_cons_of_mem _ (List.mem_append_left _ (List.mem_append_right _ (hw))))) (by decide +kernel) (by decide +kernel) hl.1 dX0_told_85 dX0_told_88 dX0_told_89 dX0_told_91 dX0_told_94 (Nat.le_of_ble_eq_true rfl) (Nat.le_of_ble_eq_true rfl) (Nat.le_of_ble_eq_true rfl) (Nat.le_of_ble_eq_true rfl) (Nat.le_of_ble_eq_true rfl) (Nat.le_of_ble_eq_true rfl)
