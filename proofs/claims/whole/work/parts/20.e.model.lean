/-! THE REFERENCE: ask, drop, resize -/
set_option maxHeartbeats 4000000 in
set_option maxRecDepth 100000 in
/-- ask -/
theorem m_ask (l : Launch) (G : gs_G) (q : Nat → Nat) (r : yr) (S : hs_S) (hS : ry S r) (hI : hs_I S) (x : Int32) (fx : Bool) : gm_i l yX1_ask wsX1_ask (gm_rm 8 0 0) G (yw G q) r [.ref (q 0), .int x, .int (bI fx)] (fun res u => py (sp_ask S x fx) res u) 0 0 := by
  refine gm_i.of (cc := cX1_ask) (nL := 5) (ret := (some .int)) (by decide +kernel) rfl (Nat.le_of_ble_eq_true rfl) ?_
  intro p e s m args below meth c ls C0 hz hl
  have hin : ∀ w ∈ wsX10, w ∈ wsX1_ask := by decide +kernel
  have l_th : Cond.fieldLink RX1 33 "HandleHeapModel" "thrown" "I" ∈ wsX1_ask := by decide +kernel
  have l_us : Cond.fieldLink RX1 7 "HandleHeapModel" "used" "[Z" ∈ wsX1_ask := by decide +kernel
  have l_fx : Cond.fieldLink RX1 20 "HandleHeapModel" "fixed" "[Z" ∈ wsX1_ask := by decide +kernel
  have l_lk : Cond.fieldLink RX1 23 "HandleHeapModel" "locked" "[Z" ∈ wsX1_ask := by decide +kernel
  have l_ls : Cond.fieldLink RX1 26 "HandleHeapModel" "losable" "[Z" ∈ wsX1_ask := by decide +kernel
  have hl : lv_has ls 5 [(0, .ref (q 0)), (1, .int x), (2, .int (bI fx))] := hl
  refine lv_aload_n C0.1.1 C0.1.2.1 dX1_ask_0 rfl (lv_at hl 0 rfl) ?_
  refine lv_iload_n C0.1.1 C0.1.2.1 dX1_ask_1 rfl (lv_at hl 1 rfl) ?_
  refine gs_callSi (w := yw G q) (wr := []) C0.1 (m_noSize l G q r x) (va_cwS 1 C0.1.2.2.2.2 gX1_ask_X1_noSize rfl rfl rfl (by decide +kernel) ⟨Nat.le_of_ble_eq_true rfl, Nat.le_of_ble_eq_true rfl⟩) (gs_nil hz) rfl hl.1 rfl (Nat.le_of_ble_eq_true rfl) dX1_ask_2 ⟨Nat.le_of_ble_eq_true rfl, Nat.le_of_ble_eq_true rfl⟩ (fun res u9 H locs hp9 hz => ?_)
  replace hz := gs_unnil hz
  obtain ⟨hpe, hp9⟩ := hp9
  rw [hpe] at hz
  rcases hp9 with ⟨hp9, n, hn1, hn, rfl⟩ | ⟨hp9, hno⟩
  · skip
    refine gs_eq (y := nI 0) (hp9) ?_
    refine lv_if_eq (tgt := 12) C0.1.1 C0.1.2.1 dX1_ask_5 (by decide) (fun _ => ?_) (fun c9 => absurd (by decide) c9)
    refine lv_iconst (v := nI 0) C0.1.1 C0.1.2.1 dX1_ask_12 (by decide) ?_
    refine yp_th C0 hin hz l_th dX1_ask_13 (fun H locs hz => ?_)
    obtain ⟨r1, er1⟩ : ∃ z, z = ys_th r (nI 0) := ⟨_, rfl⟩
    rw [← er1] at hz
    refine lv_aload_n C0.1.1 C0.1.2.1 dX1_ask_16 rfl (lv_at hl 0 rfl) ?_
    refine yg_th C0 hin hz l_th dX1_ask_17 ?_
    refine gs_eq (y := nI 0) (by rw [er1]; rfl) ?_
    refine lv_if_le (tgt := 25) C0.1.1 C0.1.2.1 dX1_ask_20 (by decide) (fun _ => ?_) (fun c9 => absurd (by decide) c9)
    have hS1 : ry S r1 := by rw [er1]; exact hS
    have th1 : y_th r1 = nI 0 := by rw [er1]; rfl
    refine lv_iconst (v := nI 0) C0.1.1 C0.1.2.1 dX1_ask_25 (by decide) ?_
    refine lv_istore_n (lv' := [(3, .int (nI 0)), (0, .ref (q 0)), (1, .int (nI n)), (2, .int (bI fx))]) C0.1.1 C0.1.2.1 dX1_ask_26 rfl hl (by decide) rfl (fun ls hl => ?_)
    have hl : lv_has ls 5 [(0, .ref (q 0)), (1, .int (nI n)), (2, .int (bI fx)), (3, .int (nI 0))] := lv_sub hl [1, 2, 3, 0] rfl
    refine (?loop : ∀ (d k : Nat) (ls : Array Slot) (H : Heap) (locs : List Loc), gs_Z G (yw G q r1) _ s H locs → k + d = 48 → hs_lu (hs_u S) 0 48 = hs_lu (hs_u S) k d → lv_has ls 5 [(0, .ref (q 0)), (1, .int (nI n)), (2, .int (bI fx)), (3, .int (nI k))] → W p l e _ s m args below meth c H locs 0 0 _ (F0 m 27 ls [])) 48 0 ls _ _ hz (Nat.zero_add _) rfl hl
    intro d
    induction d using Nat.strongRecOn with
    | _ d ih =>
      intro k ls H locs hz hd key hl
      refine lv_iload_n C0.1.1 C0.1.2.1 dX1_ask_27 rfl (lv_at hl 3 rfl) ?_
      refine lv_bipush (v := nI 48) C0.1.1 C0.1.2.1 dX1_ask_28 (by decide) ?_
      refine lv_icmp_ge (tgt := 48) C0.1.1 C0.1.2.1 dX1_ask_30 (by decide) (fun c1 => ?_) (fun c1 => ?_)
      · rw [nI_leI (by omega) (by omega)] at c1
        obtain rfl : d = 0 := by omega
        refine lv_iload_n C0.1.1 C0.1.2.1 dX1_ask_48 rfl (lv_at hl 3 rfl) ?_
        refine lv_bipush (v := nI 48) C0.1.1 C0.1.2.1 dX1_ask_49 (by decide) ?_
        refine lv_icmp_ne (tgt := 56) C0.1.1 C0.1.2.1 dX1_ask_51 (by decide) (fun c9 => absurd (by rw [nI_eq (by omega) (by omega)]; omega) c9) (fun _ => ?_)
        refine lv_iconst (v := (-1)) C0.1.1 C0.1.2.1 dX1_ask_54 (by decide) ?_
        exact gs_reti r1 C0 hz (py_of (sp_ask_n hn1 hn (by rw [key]; rfl)) th1 rfl hS1) (Nat.le_of_ble_eq_true rfl) (Nat.le_of_ble_eq_true rfl) dX1_ask_55
      · rw [nI_leI (by omega) (by omega)] at c1
        obtain ⟨d', rfl⟩ : ∃ d', d = d' + 1 := ⟨d - 1, by omega⟩
        refine lv_aload_n C0.1.1 C0.1.2.1 dX1_ask_33 rfl (lv_at hl 0 rfl) ?_
        refine yg_us C0 hin hz l_us dX1_ask_34 ?_
        refine lv_iload_n C0.1.1 C0.1.2.1 dX1_ask_37 rfl (lv_at hl 3 rfl) ?_
        refine yl_us C0 hz k (by omega) rfl dX1_ask_38 ?_
        refine gs_eq (y := bI (decide (hs_u S k ≠ 0))) (hS1.1 k (by omega)) ?_
        refine lv_if_eq (tgt := 48) C0.1.1 C0.1.2.1 dX1_ask_39 (by decide) (fun c2 => ?_) (fun c2 => ?_)
        · skip
          rw [bI_d0, Decidable.not_not] at c2
          have hlu : hs_lu (hs_u S) 0 48 = some k := by rw [key, hs_lu, if_pos c2]
          have hsp := sp_ask_s (fx := fx) hn1 hn hlu
          obtain ⟨hsm, hok⟩ := hs_room_ok hI n 48
          refine lv_iload_n C0.1.1 C0.1.2.1 dX1_ask_48 rfl (lv_at hl 3 rfl) ?_
          refine lv_bipush (v := nI 48) C0.1.1 C0.1.2.1 dX1_ask_49 (by decide) ?_
          refine lv_icmp_ne (tgt := 56) C0.1.1 C0.1.2.1 dX1_ask_51 (by decide) (fun _ => ?_) (fun c9 => absurd c9 (by rw [nI_eq (by omega) (by omega)]; omega))
          refine lv_aload_n C0.1.1 C0.1.2.1 dX1_ask_56 rfl (lv_at hl 0 rfl) ?_
          refine lv_iload_n C0.1.1 C0.1.2.1 dX1_ask_57 rfl (lv_at hl 1 rfl) ?_
          refine lv_iconst (v := (-1)) C0.1.1 C0.1.2.1 dX1_ask_58 (by decide) ?_
          refine gs_callVi (w := yw G q) (wr := []) C0.1 (m_room l G q r1 S hS1 hI n hn1 hn 48 (-1) (Or.inr ⟨rfl, rfl⟩)) (cwV 2 C0.1.2.2.2.2 gX1_ask_X1_room rfl rfl rfl (by decide +kernel) ⟨Nat.le_of_ble_eq_true rfl, Nat.le_of_ble_eq_true rfl⟩) (ci := 1) rfl rfl rfl (gs_nil hz) rfl hl.1 rfl (Nat.le_of_ble_eq_true rfl) dX1_ask_59 ⟨Nat.le_of_ble_eq_true rfl, Nat.le_of_ble_eq_true rfl⟩ (fun res u H locs hp hz => ?_)
          replace hz := gs_unnil hz
          obtain ⟨⟨hT, hres⟩, hth⟩ := hp
          rcases op_cases (hs_room S n 48).2 with ⟨k1, e1⟩ | e1
          · skip
            obtain ⟨hk1, hk2⟩ := hok k1 e1
            have hend := hs_gap_e hsm.1 hk1 hk2
            rw [sp_mk_s e1] at hsp
            refine gs_eq (y := nI (hs_gb (hs_room S n 48).1 k1)) (by rw [hres, e1]; rfl) ?_
            refine lv_istore (lv' := [(4, .int (nI (hs_gb (hs_room S n 48).1 k1))), (0, .ref (q 0)), (1, .int (nI n)), (2, .int (bI fx)), (3, .int (nI k))]) C0.1.1 C0.1.2.1 dX1_ask_62 hl (by decide) rfl (fun ls hl => ?_)
            refine lv_iload C0.1.1 C0.1.2.1 dX1_ask_64 (lv_at hl 0 rfl) ?_
            refine lv_if_ge (tgt := 71) C0.1.1 C0.1.2.1 dX1_ask_66 (by decide) (fun _ => ?_) (fun c9 => absurd ((n0_ge (by omega)).mpr trivial) c9)
            refine lv_aload_n C0.1.1 C0.1.2.1 dX1_ask_71 rfl (lv_at hl 1 rfl) ?_
            refine yg_us C0 hin hz l_us dX1_ask_72 ?_
            refine lv_iload_n C0.1.1 C0.1.2.1 dX1_ask_75 rfl (lv_at hl 4 rfl) ?_
            refine lv_iconst (v := nI 1) C0.1.1 C0.1.2.1 dX1_ask_76 (by decide) ?_
            refine yt_us C0 hz k (by omega) rfl (by decide) dX1_ask_77 (fun H locs hz => ?_)
            refine lv_aload_n C0.1.1 C0.1.2.1 dX1_ask_78 rfl (lv_at hl 1 rfl) ?_
            refine yg_fx C0 hin hz l_fx dX1_ask_79 ?_
            refine lv_iload_n C0.1.1 C0.1.2.1 dX1_ask_82 rfl (lv_at hl 4 rfl) ?_
            refine lv_iload_n C0.1.1 C0.1.2.1 dX1_ask_83 rfl (lv_at hl 3 rfl) ?_
            refine yt_fx C0 hz k (by omega) rfl (bI_nar _) dX1_ask_84 (fun H locs hz => ?_)
            refine lv_aload_n C0.1.1 C0.1.2.1 dX1_ask_85 rfl (lv_at hl 1 rfl) ?_
            refine yg_lk C0 hin hz l_lk dX1_ask_86 ?_
            refine lv_iload_n C0.1.1 C0.1.2.1 dX1_ask_89 rfl (lv_at hl 4 rfl) ?_
            refine lv_iconst (v := nI 0) C0.1.1 C0.1.2.1 dX1_ask_90 (by decide) ?_
            refine yt_lk C0 hz k (by omega) rfl (by decide) dX1_ask_91 (fun H locs hz => ?_)
            refine lv_aload_n C0.1.1 C0.1.2.1 dX1_ask_92 rfl (lv_at hl 1 rfl) ?_
            refine yg_ls C0 hin hz l_ls dX1_ask_93 ?_
            refine lv_iload_n C0.1.1 C0.1.2.1 dX1_ask_96 rfl (lv_at hl 4 rfl) ?_
            refine lv_iconst (v := nI 0) C0.1.1 C0.1.2.1 dX1_ask_97 (by decide) ?_
            refine yt_ls C0 hz k (by omega) rfl (by decide) dX1_ask_98 (fun H locs hz => ?_)
            refine lv_aload_n C0.1.1 C0.1.2.1 dX1_ask_99 rfl (lv_at hl 1 rfl) ?_
            refine lv_iload_n C0.1.1 C0.1.2.1 dX1_ask_100 rfl (lv_at hl 4 rfl) ?_
            refine lv_iload C0.1.1 C0.1.2.1 dX1_ask_101 (lv_at hl 0 rfl) ?_
            refine lv_iload_n C0.1.1 C0.1.2.1 dX1_ask_103 rfl (lv_at hl 2 rfl) ?_
            refine gs_callVv (w := yw G q) (wr := []) C0.1 (m_become l G q _ k (hs_gb (hs_room S n 48).1 k1) n (by omega) hn) (cwV 3 C0.1.2.2.2.2 gX1_ask_X1_become rfl rfl rfl (by decide +kernel) ⟨Nat.le_of_ble_eq_true rfl, Nat.le_of_ble_eq_true rfl⟩) (ci := 1) rfl rfl rfl (gs_nil hz) rfl hl.1 rfl (Nat.le_of_ble_eq_true rfl) dX1_ask_104 ⟨Nat.le_of_ble_eq_true rfl, Nat.le_of_ble_eq_true rfl⟩ (fun u2 H locs hp hz => ?_)
            replace hz := gs_unnil hz
            refine lv_iload_n C0.1.1 C0.1.2.1 dX1_ask_107 rfl (lv_at hl 4 rfl) ?_
            exact gs_reti u2 C0 hz (py_of hsp (by rw [hp]; exact hth.trans th1) rfl (by rw [hp]; exact ry_mk hT hsm.1 hn (fun _ => rfl) (fun _ => rfl) (fun _ => rfl) (fun _ => rfl) (fun _ => rfl) (fun _ => rfl) rfl rfl rfl)) (Nat.le_of_ble_eq_true rfl) (Nat.le_of_ble_eq_true rfl) dX1_ask_108
          · skip
            rw [sp_mk_n e1] at hsp
            refine gs_eq (y := (-1)) (by rw [hres, e1]; rfl) ?_
            refine lv_istore (lv' := [(4, .int ((-1))), (0, .ref (q 0)), (1, .int (nI n)), (2, .int (bI fx)), (3, .int (nI k))]) C0.1.1 C0.1.2.1 dX1_ask_62 hl (by decide) rfl (fun ls hl => ?_)
            refine lv_iload C0.1.1 C0.1.2.1 dX1_ask_64 (lv_at hl 0 rfl) ?_
            refine lv_if_ge (tgt := 71) C0.1.1 C0.1.2.1 dX1_ask_66 (by decide) (fun c9 => absurd c9 (by decide)) (fun _ => ?_)
            refine lv_iconst (v := (-1)) C0.1.1 C0.1.2.1 dX1_ask_69 (by decide) ?_
            exact gs_reti u C0 hz (py_of hsp (hth.trans th1) rfl hT) (Nat.le_of_ble_eq_true rfl) (Nat.le_of_ble_eq_true rfl) dX1_ask_70
        · skip
          rw [bI_dn] at c2
          refine lv_iinc (v := nI (k + 1)) (lv' := [(3, .int (nI (k + 1))), (0, .ref (q 0)), (1, .int (nI n)), (2, .int (bI fx))]) C0.1.1 C0.1.2.1 dX1_ask_42 hl (k := 3) rfl (nI_1 k) (by decide) rfl (fun ls hl => ?_)
          refine lv_goto (tgt := 27) C0.1.1 C0.1.2.1 dX1_ask_45 (by decide) ?_
          have hl : lv_has ls 5 [(0, .ref (q 0)), (1, .int (nI n)), (2, .int (bI fx)), (3, .int (nI (k + 1)))] := lv_sub hl [1, 2, 3, 0] rfl
          exact ih d' (by omega) (k + 1) ls _ _ hz (by omega) (by rw [key, hs_lu, if_neg c2]) hl
  · skip
    refine gs_eq (y := nI 1) (hp9) ?_
    refine lv_if_eq (tgt := 12) C0.1.1 C0.1.2.1 dX1_ask_5 (by decide) (fun c9 => absurd c9 (by decide)) (fun _ => ?_)
    refine lv_iconst (v := nI 1) C0.1.1 C0.1.2.1 dX1_ask_8 (by decide) ?_
    refine lv_goto (tgt := 13) C0.1.1 C0.1.2.1 dX1_ask_9 (by decide) ?_
    refine yp_th C0 hin hz l_th dX1_ask_13 (fun H locs hz => ?_)
    obtain ⟨r1, er1⟩ : ∃ z, z = ys_th r (nI 1) := ⟨_, rfl⟩
    rw [← er1] at hz
    refine lv_aload_n C0.1.1 C0.1.2.1 dX1_ask_16 rfl (lv_at hl 0 rfl) ?_
    refine yg_th C0 hin hz l_th dX1_ask_17 ?_
    refine gs_eq (y := nI 1) (by rw [er1]; rfl) ?_
    refine lv_if_le (tgt := 25) C0.1.1 C0.1.2.1 dX1_ask_20 (by decide) (fun c9 => absurd c9 (by decide)) (fun _ => ?_)
    refine lv_iconst (v := nI 0) C0.1.1 C0.1.2.1 dX1_ask_23 (by decide) ?_
    exact gs_reti r1 C0 hz (py_x (sp_ask_x hno) (by decide) (by rw [er1]; rfl) (by rw [er1]; exact hS)) (Nat.le_of_ble_eq_true rfl) (Nat.le_of_ble_eq_true rfl) dX1_ask_24
set_option maxHeartbeats 4000000 in
set_option maxRecDepth 100000 in
/-- drop -/
theorem m_drop (l : Launch) (G : gs_G) (q : Nat → Nat) (r : yr) (S : hs_S) (hS : ry S r) (x : Int32) : gm_i l yX1_drop wsX1_drop (gm_rm 8 0 0) G (yw G q) r [.ref (q 0), .int x] (fun res u => py (sp_drop S x) res u) 0 0 := by
  refine gm_i.of (cc := cX1_drop) (nL := 3) (ret := (some .int)) (by decide +kernel) rfl (Nat.le_of_ble_eq_true rfl) ?_
  intro p e s m args below meth c ls C0 hz hl
  have hin : ∀ w ∈ wsX10, w ∈ wsX1_drop := by decide +kernel
  have l_th : Cond.fieldLink RX1 33 "HandleHeapModel" "thrown" "I" ∈ wsX1_drop := by decide +kernel
  have l_sz : Cond.fieldLink RX1 17 "HandleHeapModel" "size" "[I" ∈ wsX1_drop := by decide +kernel
  have l_us : Cond.fieldLink RX1 7 "HandleHeapModel" "used" "[Z" ∈ wsX1_drop := by decide +kernel
  have hl : lv_has ls 3 [(0, .ref (q 0)), (1, .int x)] := hl
  refine lv_aload_n C0.1.1 C0.1.2.1 dX1_drop_0 rfl (lv_at hl 0 rfl) ?_
  refine lv_aload_n C0.1.1 C0.1.2.1 dX1_drop_1 rfl (lv_at hl 0 rfl) ?_
  refine lv_iload_n C0.1.1 C0.1.2.1 dX1_drop_2 rfl (lv_at hl 1 rfl) ?_
  refine gs_callVi (w := yw G q) (wr := []) C0.1 (m_notUsed l G q r S hS x) (cwV 1 C0.1.2.2.2.2 gX1_drop_X1_notUsed rfl rfl rfl (by decide +kernel) ⟨Nat.le_of_ble_eq_true rfl, Nat.le_of_ble_eq_true rfl⟩) (ci := 1) rfl rfl rfl (gs_nil hz) rfl hl.1 rfl (Nat.le_of_ble_eq_true rfl) dX1_drop_3 ⟨Nat.le_of_ble_eq_true rfl, Nat.le_of_ble_eq_true rfl⟩ (fun res u9 H locs hp9 hz => ?_)
  replace hz := gs_unnil hz
  obtain ⟨hpe, hp9⟩ := hp9
  rw [hpe] at hz
  rcases hp9 with ⟨hp9, h, hh, rfl, hu⟩ | ⟨hp9, hno⟩
  · skip
    refine gs_eq (y := nI 0) (hp9) ?_
    refine lv_if_eq (tgt := 13) C0.1.1 C0.1.2.1 dX1_drop_6 (by decide) (fun _ => ?_) (fun c9 => absurd (by decide) c9)
    refine lv_iconst (v := nI 0) C0.1.1 C0.1.2.1 dX1_drop_13 (by decide) ?_
    refine yp_th C0 hin hz l_th dX1_drop_14 (fun H locs hz => ?_)
    obtain ⟨r1, er1⟩ : ∃ z, z = ys_th r (nI 0) := ⟨_, rfl⟩
    rw [← er1] at hz
    refine lv_aload_n C0.1.1 C0.1.2.1 dX1_drop_17 rfl (lv_at hl 0 rfl) ?_
    refine yg_th C0 hin hz l_th dX1_drop_18 ?_
    refine gs_eq (y := nI 0) (by rw [er1]; rfl) ?_
    refine lv_if_le (tgt := 26) C0.1.1 C0.1.2.1 dX1_drop_21 (by decide) (fun _ => ?_) (fun c9 => absurd (by decide) c9)
    have hS1 : ry S r1 := by rw [er1]; exact hS
    refine lv_aload_n C0.1.1 C0.1.2.1 dX1_drop_26 rfl (lv_at hl 0 rfl) ?_
    refine yg_sz C0 hin hz l_sz dX1_drop_27 ?_
    refine lv_iload_n C0.1.1 C0.1.2.1 dX1_drop_30 rfl (lv_at hl 1 rfl) ?_
    refine yl_sz C0 hz h (by omega) rfl dX1_drop_31 ?_
    refine gs_eq (y := nI (hs_n S h)) (hS1.2.1 h hh) ?_
    refine lv_istore_n (lv' := [(2, .int (nI (hs_n S h))), (0, .ref (q 0)), (1, .int (nI h))]) C0.1.1 C0.1.2.1 dX1_drop_32 rfl hl (by decide) rfl (fun ls hl => ?_)
    refine lv_aload_n C0.1.1 C0.1.2.1 dX1_drop_33 rfl (lv_at hl 1 rfl) ?_
    refine yg_us C0 hin hz l_us dX1_drop_34 ?_
    refine lv_iload_n C0.1.1 C0.1.2.1 dX1_drop_37 rfl (lv_at hl 2 rfl) ?_
    refine lv_iconst (v := nI 0) C0.1.1 C0.1.2.1 dX1_drop_38 (by decide) ?_
    refine yt_us C0 hz h (by omega) rfl (by decide) dX1_drop_39 (fun H locs hz => ?_)
    refine lv_aload_n C0.1.1 C0.1.2.1 dX1_drop_40 rfl (lv_at hl 1 rfl) ?_
    refine yg_sz C0 hin hz l_sz dX1_drop_41 ?_
    refine lv_iload_n C0.1.1 C0.1.2.1 dX1_drop_44 rfl (lv_at hl 2 rfl) ?_
    refine lv_iconst (v := nI 0) C0.1.1 C0.1.2.1 dX1_drop_45 (by decide) ?_
    refine yt_sz C0 hz h (by omega) rfl dX1_drop_46 (fun H locs hz => ?_)
    refine lv_iload_n C0.1.1 C0.1.2.1 dX1_drop_47 rfl (lv_at hl 0 rfl) ?_
    exact gs_reti (ys_sz (ys_us r1 (upd (y_us r1) h (nI 0))) (upd (y_sz (ys_us r1 (upd (y_us r1) h (nI 0)))) h (nI 0))) C0 hz (py_of (sp_use_h hh hu) (by rw [er1]; rfl) rfl (ry_tk hS1)) (Nat.le_of_ble_eq_true rfl) (Nat.le_of_ble_eq_true rfl) dX1_drop_48
  · skip
    refine gs_eq (y := nI 1) (hp9) ?_
    refine lv_if_eq (tgt := 13) C0.1.1 C0.1.2.1 dX1_drop_6 (by decide) (fun c9 => absurd c9 (by decide)) (fun _ => ?_)
    refine lv_iconst (v := nI 1) C0.1.1 C0.1.2.1 dX1_drop_9 (by decide) ?_
    refine lv_goto (tgt := 14) C0.1.1 C0.1.2.1 dX1_drop_10 (by decide) ?_
    refine yp_th C0 hin hz l_th dX1_drop_14 (fun H locs hz => ?_)
    obtain ⟨r1, er1⟩ : ∃ z, z = ys_th r (nI 1) := ⟨_, rfl⟩
    rw [← er1] at hz
    refine lv_aload_n C0.1.1 C0.1.2.1 dX1_drop_17 rfl (lv_at hl 0 rfl) ?_
    refine yg_th C0 hin hz l_th dX1_drop_18 ?_
    refine gs_eq (y := nI 1) (by rw [er1]; rfl) ?_
    refine lv_if_le (tgt := 26) C0.1.1 C0.1.2.1 dX1_drop_21 (by decide) (fun c9 => absurd c9 (by decide)) (fun _ => ?_)
    refine lv_iconst (v := nI 0) C0.1.1 C0.1.2.1 dX1_drop_24 (by decide) ?_
    exact gs_reti r1 C0 hz (py_x (sp_use_no hno) (by decide) (by rw [er1]; rfl) (by rw [er1]; exact hS)) (Nat.le_of_ble_eq_true rfl) (Nat.le_of_ble_eq_true rfl) dX1_drop_25
set_option maxHeartbeats 4000000 in
set_option maxRecDepth 100000 in
/-- resize -/
theorem m_resize (l : Launch) (G : gs_G) (q : Nat → Nat) (r : yr) (S : hs_S) (hS : ry S r) (hI : hs_I S) (x y : Int32) : gm_i l yX1_resize wsX1_resize (gm_rm 8 0 0) G (yw G q) r [.ref (q 0), .int x, .int y] (fun res u => py (sp_resize S x y) res u) 0 0 := by
  refine gm_i.of (cc := cX1_resize) (nL := 5) (ret := (some .boolean)) (by decide +kernel) rfl (Nat.le_of_ble_eq_true rfl) ?_
  intro p e s m args below meth c ls C0 hz hl
  have hin : ∀ w ∈ wsX10, w ∈ wsX1_resize := by decide +kernel
  have l_th : Cond.fieldLink RX1 33 "HandleHeapModel" "thrown" "I" ∈ wsX1_resize := by decide +kernel
  have l_sz : Cond.fieldLink RX1 17 "HandleHeapModel" "size" "[I" ∈ wsX1_resize := by decide +kernel
  have l_fx : Cond.fieldLink RX1 20 "HandleHeapModel" "fixed" "[Z" ∈ wsX1_resize := by decide +kernel
  have l_lk : Cond.fieldLink RX1 23 "HandleHeapModel" "locked" "[Z" ∈ wsX1_resize := by decide +kernel
  have l_ls : Cond.fieldLink RX1 26 "HandleHeapModel" "losable" "[Z" ∈ wsX1_resize := by decide +kernel
  have l_bg : Cond.fieldLink RX1 13 "HandleHeapModel" "begin" "[I" ∈ wsX1_resize := by decide +kernel
  have l_mv : Cond.fieldLink RX1 51 "HandleHeapModel" "moved" "I" ∈ wsX1_resize := by decide +kernel
  have l_by : Cond.fieldLink RX1 30 "HandleHeapModel" "bytes" "[I" ∈ wsX1_resize := by decide +kernel
  have hl : lv_has ls 5 [(0, .ref (q 0)), (1, .int x), (2, .int y)] := hl
  have go181 : ∀ (rb : yr) (h n old : Nat) (T : hs_S) (ls : Array Slot) (H : Heap) (locs : List Loc), gs_Z G (yw G q rb) (va_A (yw G q r) s.heap.size) s H locs → h < 48 → n ≤ 1024 → old ≤ 1024 → (∀ (r9 : yr), r9 = ys_sz (ys_by rb (mfl (y_by rb) (1024 * h + old) (1024 * h + n))) (upd (y_sz rb) h (nI n)) → py (sp_resize S x y) (nI 1) r9) → lv_has ls 5 [(0, .ref (q 0)), (1, .int (nI h)), (2, .int (nI n)), (3, .int (nI old))] → W p l e (gm_rm 8 0 0) s m args below meth c H locs 0 0 (MQ below (va_Qi (fun res u => py (sp_resize S x y) res u) (fun u t => gm_B G (yw G q r) s.heap.size (yw G q u) t) (va_A (yw G q r) s.heap.size)) args s 0 0 (va_A (yw G q r) s.heap.size)) (F0 m 178 ls []) := by
    intro rb h n old T ls H locs hz hh hn hold hfin hl
    have e0 : y_by rb = mfl (y_by rb) (1024 * h + old) (1024 * h + old) := mfl_0
    have hz : gs_Z G (yw G q (ys_by rb (mfl (y_by rb) (1024 * h + old) (1024 * h + old)))) (va_A (yw G q r) s.heap.size) s H locs := by rw [← e0]; exact hz
    refine lv_iload_n C0.1.1 C0.1.2.1 dX1_resize_178 rfl (lv_at hl 3 rfl) ?_
    refine lv_istore (lv' := [(4, .int (nI old)), (0, .ref (q 0)), (1, .int (nI h)), (2, .int (nI n)), (3, .int (nI old))]) C0.1.1 C0.1.2.1 dX1_resize_179 hl (by decide) rfl (fun ls hl => ?_)
    have hl : lv_has ls 5 [(0, .ref (q 0)), (1, .int (nI h)), (2, .int (nI n)), (3, .int (nI old)), (4, .int (nI old))] := lv_sub hl [1, 2, 3, 4, 0] rfl
    refine (?loop : ∀ (d k : Nat) (ls : Array Slot) (H : Heap) (locs : List Loc), gs_Z G (yw G q (ys_by rb (mfl (y_by rb) (1024 * h + old) (1024 * h + k)))) _ s H locs → (n ≤ k → k = max old n ∨ k = old) → old ≤ k → k + d = max old n → lv_has ls 5 [(0, .ref (q 0)), (1, .int (nI h)), (2, .int (nI n)), (3, .int (nI old)), (4, .int (nI k))] → W p l e _ s m args below meth c H locs 0 0 _ (F0 m 181 ls [])) (max old n - old) old ls _ _ hz (fun _ => Or.inr rfl) (Nat.le_refl _) (by omega) hl
    intro d
    induction d using Nat.strongRecOn with
    | _ d ih =>
      intro k ls H locs hz hk0 hk hd hl
      refine lv_iload C0.1.1 C0.1.2.1 dX1_resize_181 (lv_at hl 4 rfl) ?_
      refine lv_iload_n C0.1.1 C0.1.2.1 dX1_resize_183 rfl (lv_at hl 2 rfl) ?_
      refine lv_icmp_ge (tgt := 207) C0.1.1 C0.1.2.1 dX1_resize_184 (by decide) (fun c1 => ?_) (fun c1 => ?_)
      · rw [nI_leI (by omega) (by omega)] at c1
        have ek : mfl (y_by rb) (1024 * h + old) (1024 * h + k) = mfl (y_by rb) (1024 * h + old) (1024 * h + n) := by
          by_cases z : k = n
          · rw [z]
          · have hk1 : k = old := by rcases hk0 c1 with w | w <;> omega
            funext j
            rw [mfl_out (by omega), mfl_out (by omega)]
        rw [ek] at hz
        refine lv_aload_n C0.1.1 C0.1.2.1 dX1_resize_207 rfl (lv_at hl 0 rfl) ?_
        refine yg_sz C0 hin hz l_sz dX1_resize_208 ?_
        refine lv_iload_n C0.1.1 C0.1.2.1 dX1_resize_211 rfl (lv_at hl 1 rfl) ?_
        refine lv_iload_n C0.1.1 C0.1.2.1 dX1_resize_212 rfl (lv_at hl 2 rfl) ?_
        refine yt_sz C0 hz h (by omega) rfl dX1_resize_213 (fun H locs hz => ?_)
        obtain ⟨r9, er9⟩ : ∃ z, z = ys_sz (ys_by rb (mfl (y_by rb) (1024 * h + old) (1024 * h + n))) (upd (y_sz rb) h (nI n)) := ⟨_, rfl⟩
        have hz : gs_Z G (yw G q r9) (va_A (yw G q r) s.heap.size) s H locs := by rw [er9]; exact hz
        refine lv_iconst (v := nI 1) C0.1.1 C0.1.2.1 dX1_resize_214 (by decide) ?_
        exact gs_retz r9 C0 hz (by decide) (hfin r9 er9) (Nat.le_of_ble_eq_true rfl) (Nat.le_of_ble_eq_true rfl) dX1_resize_215
      · rw [nI_leI (by omega) (by omega)] at c1
        refine lv_aload_n C0.1.1 C0.1.2.1 dX1_resize_187 rfl (lv_at hl 0 rfl) ?_
        refine yg_by C0 hin hz l_by dX1_resize_188 ?_
        refine lv_sipush (v := nI 1024) C0.1.1 C0.1.2.1 dX1_resize_191 (by decide) ?_
        refine lv_iload_n C0.1.1 C0.1.2.1 dX1_resize_194 rfl (lv_at hl 1 rfl) ?_
        refine lv_imul C0.1.1 C0.1.2.1 dX1_resize_195 ?_
        refine gs_eq (pk_mul 1024 h) ?_
        refine lv_iload C0.1.1 C0.1.2.1 dX1_resize_196 (lv_at hl 4 rfl) ?_
        refine lv_iadd C0.1.1 C0.1.2.1 dX1_resize_198 ?_
        refine gs_eq (nI_add (1024 * h) k) ?_
        refine lv_iconst (v := nI 0) C0.1.1 C0.1.2.1 dX1_resize_199 (by decide) ?_
        refine yt_by C0 hz ((1024 * h) + k) (by omega) rfl dX1_resize_200 (fun H locs hz => ?_)
        have hz : gs_Z G (yw G q (ys_by rb (mfl (y_by rb) (1024 * h + old) (1024 * h + (k + 1))))) (va_A (yw G q r) s.heap.size) s H locs := by
          rw [← Nat.add_assoc, ← mfl_st (by omega)]; exact hz
        refine lv_iinc (v := nI (k + 1)) (lv' := [(4, .int (nI (k + 1))), (0, .ref (q 0)), (1, .int (nI h)), (2, .int (nI n)), (3, .int (nI old))]) C0.1.1 C0.1.2.1 dX1_resize_201 hl (k := 4) rfl (nI_1 k) (by decide) rfl (fun ls hl => ?_)
        refine lv_goto (tgt := 181) C0.1.1 C0.1.2.1 dX1_resize_204 (by decide) ?_
        have hl : lv_has ls 5 [(0, .ref (q 0)), (1, .int (nI h)), (2, .int (nI n)), (3, .int (nI old)), (4, .int (nI (k + 1)))] := lv_sub hl [1, 2, 3, 4, 0] rfl
        exact ih (d - 1) (by omega) (k + 1) ls _ _ hz (fun z => by omega) (by omega) (by omega) hl
  refine lv_aload_n C0.1.1 C0.1.2.1 dX1_resize_0 rfl (lv_at hl 0 rfl) ?_
  refine lv_aload_n C0.1.1 C0.1.2.1 dX1_resize_1 rfl (lv_at hl 0 rfl) ?_
  refine lv_iload_n C0.1.1 C0.1.2.1 dX1_resize_2 rfl (lv_at hl 1 rfl) ?_
  refine gs_callVi (w := yw G q) (wr := []) C0.1 (m_notUsed l G q r S hS x) (cwV 1 C0.1.2.2.2.2 gX1_resize_X1_notUsed rfl rfl rfl (by decide +kernel) ⟨Nat.le_of_ble_eq_true rfl, Nat.le_of_ble_eq_true rfl⟩) (ci := 1) rfl rfl rfl (gs_nil hz) rfl hl.1 rfl (Nat.le_of_ble_eq_true rfl) dX1_resize_3 ⟨Nat.le_of_ble_eq_true rfl, Nat.le_of_ble_eq_true rfl⟩ (fun res u9 H locs hp9 hz => ?_)
  replace hz := gs_unnil hz
  obtain ⟨hpe, hp9⟩ := hp9
  rw [hpe] at hz
  rcases hp9 with ⟨hp9, h, hh, rfl, hu⟩ | ⟨hp9, hno⟩
  · skip
    refine gs_eq (y := nI 0) (hp9) ?_
    refine lv_if_ne (tgt := 16) C0.1.1 C0.1.2.1 dX1_resize_6 (by decide) (fun c9 => absurd (by decide) c9) (fun _ => ?_)
    refine lv_iload_n C0.1.1 C0.1.2.1 dX1_resize_9 rfl (lv_at hl 2 rfl) ?_
    refine gs_callSi (w := yw G q) (wr := []) C0.1 (m_noSize l G q r y) (va_cwS 1 C0.1.2.2.2.2 gX1_resize_X1_noSize rfl rfl rfl (by decide +kernel) ⟨Nat.le_of_ble_eq_true rfl, Nat.le_of_ble_eq_true rfl⟩) (gs_nil hz) rfl hl.1 rfl (Nat.le_of_ble_eq_true rfl) dX1_resize_10 ⟨Nat.le_of_ble_eq_true rfl, Nat.le_of_ble_eq_true rfl⟩ (fun res u9 H locs hp9 hz => ?_)
    replace hz := gs_unnil hz
    obtain ⟨hpe, hp9⟩ := hp9
    rw [hpe] at hz
    rcases hp9 with ⟨hp9, n, hn1, hn, rfl⟩ | ⟨hp9, hno⟩
    · skip
      refine gs_eq (y := nI 0) (hp9) ?_
      refine lv_if_eq (tgt := 20) C0.1.1 C0.1.2.1 dX1_resize_13 (by decide) (fun _ => ?_) (fun c9 => absurd (by decide) c9)
      refine lv_iconst (v := nI 0) C0.1.1 C0.1.2.1 dX1_resize_20 (by decide) ?_
      refine yp_th C0 hin hz l_th dX1_resize_21 (fun H locs hz => ?_)
      obtain ⟨r1, er1⟩ : ∃ z, z = ys_th r (nI 0) := ⟨_, rfl⟩
      rw [← er1] at hz
      refine lv_aload_n C0.1.1 C0.1.2.1 dX1_resize_24 rfl (lv_at hl 0 rfl) ?_
      refine yg_th C0 hin hz l_th dX1_resize_25 ?_
      refine gs_eq (y := nI 0) (by rw [er1]; rfl) ?_
      refine lv_if_le (tgt := 33) C0.1.1 C0.1.2.1 dX1_resize_28 (by decide) (fun _ => ?_) (fun c9 => absurd (by decide) c9)
      have hS1 : ry S r1 := by rw [er1]; exact hS
      have th1 : y_th r1 = nI 0 := by rw [er1]; rfl
      have hsp := sp_resize_h hh hu hn1 hn
      have hold := hI.n1024 hh
      have hn0 := hI.n0 hh
      have hu2 := hI.u2 hh
      refine lv_aload_n C0.1.1 C0.1.2.1 dX1_resize_33 rfl (lv_at hl 0 rfl) ?_
      refine yg_sz C0 hin hz l_sz dX1_resize_34 ?_
      refine lv_iload_n C0.1.1 C0.1.2.1 dX1_resize_37 rfl (lv_at hl 1 rfl) ?_
      refine yl_sz C0 hz h (by omega) rfl dX1_resize_38 ?_
      refine gs_eq (y := nI (hs_n S h)) (hS1.2.1 h hh) ?_
      refine lv_istore_n (lv' := [(3, .int (nI (hs_n S h))), (0, .ref (q 0)), (1, .int (nI h)), (2, .int (nI n))]) C0.1.1 C0.1.2.1 dX1_resize_39 rfl hl (by decide) rfl (fun ls hl => ?_)
      refine lv_iload_n C0.1.1 C0.1.2.1 dX1_resize_40 rfl (lv_at hl 0 rfl) ?_
      refine lv_if_ne (tgt := 97) C0.1.1 C0.1.2.1 dX1_resize_41 (by decide) (fun c1 => ?_) (fun c1 => ?_)
      · rw [n0_eq (by omega)] at c1
        have huh : hs_u S h = 2 := hn0.mp (by omega)
        have hS3 := hS1.2.2.1 h hh huh
        have hbn := hI.bn hh huh
        rw [if_neg (by omega)] at hsp
        obtain ⟨kx, ekx⟩ : ∃ z, z = hg_ix h (hs_R S) := ⟨_, rfl⟩
        have hix := hg_ix_ok ((hI.2.1 h).mpr ⟨hh, huh⟩)
        rw [← ekx] at hix
        have hgb : hs_gb S (kx + 1) = hs_b S h + hs_n S h := by show hs_b S (hg_at (hs_R S) kx) + hs_n S (hg_at (hs_R S) kx) = _; rw [hix.2]
        have hge := hs_ge_le hI (k := kx + 1) (by omega)
        have hfb : hs_fb S h = hs_ge S (kx + 1) - (hs_b S h + hs_n S h) := by unfold hs_fb; rw [← ekx, hs_gl_e, hgb]
        have hnk := hs_nk_gb hI (k := kx + 1) (by omega)
        rw [hgb] at hnk hge
        refine lv_iload_n C0.1.1 C0.1.2.1 dX1_resize_97 rfl (lv_at hl 3 rfl) ?_
        refine lv_iload_n C0.1.1 C0.1.2.1 dX1_resize_98 rfl (lv_at hl 0 rfl) ?_
        refine lv_icmp_le (tgt := 178) C0.1.1 C0.1.2.1 dX1_resize_99 (by decide) (fun c2 => ?_) (fun c2 => ?_)
        · rw [nI_leI (by omega) (by omega)] at c2
          rw [if_pos (by omega)] at hsp
          have hl : lv_has ls 5 [(0, .ref (q 0)), (1, .int (nI h)), (2, .int (nI n)), (3, .int (nI (hs_n S h)))] := lv_sub hl [1, 2, 3, 0] rfl
          exact go181 r1 h n (hs_n S h) S ls _ _ hz hh hn hold (fun r9 e9 => py_of hsp (by rw [e9]; exact th1) rfl (ry_sz hS1 hI hh huh hn (by rw [e9]; rfl) (by rw [e9]; rfl) (by rw [e9]; rfl) (by rw [e9]; rfl) (by rw [e9]; rfl) (fun g => by rw [e9]; rfl) (by rw [e9]; rfl) (by rw [e9]; rfl) (by rw [e9]; rfl))) hl
        · rw [nI_leI (by omega) (by omega)] at c2
          refine lv_aload_n C0.1.1 C0.1.2.1 dX1_resize_102 rfl (lv_at hl 1 rfl) ?_
          refine lv_aload_n C0.1.1 C0.1.2.1 dX1_resize_103 rfl (lv_at hl 1 rfl) ?_
          refine yg_bg C0 hin hz l_bg dX1_resize_104 ?_
          refine lv_iload_n C0.1.1 C0.1.2.1 dX1_resize_107 rfl (lv_at hl 2 rfl) ?_
          refine yl_bg C0 hz h (by omega) rfl dX1_resize_108 ?_
          refine gs_eq (y := nI (hs_b S h)) (hS3.1) ?_
          refine lv_iload_n C0.1.1 C0.1.2.1 dX1_resize_109 rfl (lv_at hl 0 rfl) ?_
          refine lv_iadd C0.1.1 C0.1.2.1 dX1_resize_110 ?_
          refine gs_eq (nI_add (hs_b S h) (hs_n S h)) ?_
          refine gs_callVi (w := yw G q) (wr := []) C0.1 (m_freeTo l G q r1 S hS1 hI (hs_b S h + hs_n S h) (kx + 1) hnk) (cwV 1 C0.1.2.2.2.2 gX1_resize_X1_freeTo rfl rfl rfl (by decide +kernel) ⟨Nat.le_of_ble_eq_true rfl, Nat.le_of_ble_eq_true rfl⟩) (ci := 1) rfl rfl rfl (gs_nil hz) rfl hl.1 rfl (Nat.le_of_ble_eq_true rfl) dX1_resize_111 ⟨Nat.le_of_ble_eq_true rfl, Nat.le_of_ble_eq_true rfl⟩ (fun res u9 H locs hp9 hz => ?_)
          replace hz := gs_unnil hz
          rw [hp9.1] at hz
          refine gs_eq (y := nI (hs_ge S (kx + 1))) (hp9.2) ?_
          clear hp9
          refine lv_aload_n C0.1.1 C0.1.2.1 dX1_resize_114 rfl (lv_at hl 1 rfl) ?_
          refine yg_bg C0 hin hz l_bg dX1_resize_115 ?_
          refine lv_iload_n C0.1.1 C0.1.2.1 dX1_resize_118 rfl (lv_at hl 2 rfl) ?_
          refine yl_bg C0 hz h (by omega) rfl dX1_resize_119 ?_
          refine gs_eq (y := nI (hs_b S h)) (hS3.1) ?_
          refine lv_isub C0.1.1 C0.1.2.1 dX1_resize_120 ?_
          refine gs_eq (pk_sub (by omega)) ?_
          refine lv_iload_n C0.1.1 C0.1.2.1 dX1_resize_121 rfl (lv_at hl 3 rfl) ?_
          refine lv_icmp_ge (tgt := 178) C0.1.1 C0.1.2.1 dX1_resize_122 (by decide) (fun c3 => ?_) (fun c3 => ?_)
          · rw [nI_leI (by omega) (by omega)] at c3
            rw [if_pos (by omega)] at hsp
            have hl : lv_has ls 5 [(0, .ref (q 0)), (1, .int (nI h)), (2, .int (nI n)), (3, .int (nI (hs_n S h)))] := lv_sub hl [1, 2, 3, 0] rfl
            exact go181 r1 h n (hs_n S h) S ls _ _ hz hh hn hold (fun r9 e9 => py_of hsp (by rw [e9]; exact th1) rfl (ry_sz hS1 hI hh huh hn (by rw [e9]; rfl) (by rw [e9]; rfl) (by rw [e9]; rfl) (by rw [e9]; rfl) (by rw [e9]; rfl) (fun g => by rw [e9]; rfl) (by rw [e9]; rfl) (by rw [e9]; rfl) (by rw [e9]; rfl))) hl
          · rw [nI_leI (by omega) (by omega)] at c3
            rw [if_neg (by omega)] at hsp
            refine lv_aload_n C0.1.1 C0.1.2.1 dX1_resize_125 rfl (lv_at hl 1 rfl) ?_
            refine yg_fx C0 hin hz l_fx dX1_resize_126 ?_
            refine lv_iload_n C0.1.1 C0.1.2.1 dX1_resize_129 rfl (lv_at hl 2 rfl) ?_
            refine yl_fx C0 hz h (by omega) rfl dX1_resize_130 ?_
            refine gs_eq (y := bI (hs_f S h)) (hS3.2.1) ?_
            refine lv_if_ne (tgt := 143) C0.1.1 C0.1.2.1 dX1_resize_131 (by decide) (fun c4 => ?_) (fun c4 => ?_)
            · skip
              rw [bI_0, Bool.not_eq_false] at c4
              rw [if_neg (by unfold hs_mv; rw [c4]; exact fun z => by cases z)] at hsp
              refine lv_iconst (v := nI 0) C0.1.1 C0.1.2.1 dX1_resize_143 (by decide) ?_
              exact gs_retz r1 C0 hz (by decide) (py_of hsp th1 rfl hS1) (Nat.le_of_ble_eq_true rfl) (Nat.le_of_ble_eq_true rfl) dX1_resize_144
            · skip
              rw [bI_0] at c4
              refine lv_aload_n C0.1.1 C0.1.2.1 dX1_resize_134 rfl (lv_at hl 1 rfl) ?_
              refine yg_lk C0 hin hz l_lk dX1_resize_135 ?_
              refine lv_iload_n C0.1.1 C0.1.2.1 dX1_resize_138 rfl (lv_at hl 2 rfl) ?_
              refine yl_lk C0 hz h (by omega) rfl dX1_resize_139 ?_
              refine gs_eq (y := bI (hs_l S h)) (hS3.2.2.1) ?_
              refine lv_if_eq (tgt := 145) C0.1.1 C0.1.2.1 dX1_resize_140 (by decide) (fun c5 => ?_) (fun c5 => ?_)
              · skip
                rw [bI_0] at c5
                rw [if_pos (by unfold hs_mv; rw [c4, c5]; rfl)] at hsp
                obtain ⟨hsm, hok⟩ := hs_room_ok hI n h
                refine lv_aload_n C0.1.1 C0.1.2.1 dX1_resize_145 rfl (lv_at hl 1 rfl) ?_
                refine lv_iload_n C0.1.1 C0.1.2.1 dX1_resize_146 rfl (lv_at hl 3 rfl) ?_
                refine lv_iload_n C0.1.1 C0.1.2.1 dX1_resize_147 rfl (lv_at hl 2 rfl) ?_
                refine gs_callVi (w := yw G q) (wr := []) C0.1 (m_room l G q r1 S hS1 hI n hn1 hn h (nI h) (Or.inl ⟨hh, rfl⟩)) (cwV 2 C0.1.2.2.2.2 gX1_resize_X1_room rfl rfl rfl (by decide +kernel) ⟨Nat.le_of_ble_eq_true rfl, Nat.le_of_ble_eq_true rfl⟩) (ci := 1) rfl rfl rfl (gs_nil hz) rfl hl.1 rfl (Nat.le_of_ble_eq_true rfl) dX1_resize_148 ⟨Nat.le_of_ble_eq_true rfl, Nat.le_of_ble_eq_true rfl⟩ (fun res u H locs hp hz => ?_)
                replace hz := gs_unnil hz
                obtain ⟨⟨hT, hres⟩, hth⟩ := hp
                rcases op_cases (hs_room S n h).2 with ⟨k1, e1⟩ | e1
                · skip
                  obtain ⟨hk1, hk2⟩ := hok k1 e1
                  have hend := hs_gap_e hsm.1 hk1 hk2
                  obtain ⟨huT, hnT⟩ := hsm.2.2 hh huh
                  rw [sp_gr_s e1] at hsp
                  refine gs_eq (y := nI (hs_gb (hs_room S n h).1 k1)) (by rw [hres, e1]; rfl) ?_
                  refine lv_istore (lv' := [(4, .int (nI (hs_gb (hs_room S n h).1 k1))), (3, .int (nI (hs_n S h))), (0, .ref (q 0)), (1, .int (nI h)), (2, .int (nI n))]) C0.1.1 C0.1.2.1 dX1_resize_151 hl (by decide) rfl (fun ls hl => ?_)
                  refine lv_iload C0.1.1 C0.1.2.1 dX1_resize_153 (lv_at hl 0 rfl) ?_
                  refine lv_if_ge (tgt := 160) C0.1.1 C0.1.2.1 dX1_resize_155 (by decide) (fun _ => ?_) (fun c9 => absurd ((n0_ge (by omega)).mpr trivial) c9)
                  refine lv_aload_n C0.1.1 C0.1.2.1 dX1_resize_160 rfl (lv_at hl 2 rfl) ?_
                  refine yg_bg C0 hin hz l_bg dX1_resize_161 ?_
                  refine lv_iload_n C0.1.1 C0.1.2.1 dX1_resize_164 rfl (lv_at hl 3 rfl) ?_
                  refine lv_iload C0.1.1 C0.1.2.1 dX1_resize_165 (lv_at hl 0 rfl) ?_
                  refine yt_bg C0 hz h (by omega) rfl dX1_resize_167 (fun H locs hz => ?_)
                  refine lv_aload_n C0.1.1 C0.1.2.1 dX1_resize_168 rfl (lv_at hl 2 rfl) ?_
                  refine lv_aload_n C0.1.1 C0.1.2.1 dX1_resize_169 rfl (lv_at hl 2 rfl) ?_
                  refine yg_mv C0 hin hz l_mv dX1_resize_170 ?_
                  refine lv_iload_n C0.1.1 C0.1.2.1 dX1_resize_173 rfl (lv_at hl 1 rfl) ?_
                  refine lv_iadd C0.1.1 C0.1.2.1 dX1_resize_174 ?_
                  refine yp_mv C0 hin hz l_mv dX1_resize_175 (fun H locs hz => ?_)
                  obtain ⟨rb, erb⟩ : ∃ z, z = ys_mv (ys_bg u (upd (y_bg u) h (nI (hs_gb (hs_room S n h).1 k1)))) (y_mv u + nI (hs_n S h)) := ⟨_, rfl⟩
                  have hz : gs_Z G (yw G q rb) (va_A (yw G q r) s.heap.size) s H locs := by rw [erb]; exact hz
                  have hl : lv_has ls 5 [(0, .ref (q 0)), (1, .int (nI h)), (2, .int (nI n)), (3, .int (nI (hs_n S h)))] := lv_sub hl [2, 3, 4, 1] rfl
                  exact go181 rb h n (hs_n S h) S ls _ _ hz hh hn hold (fun r9 e9 => py_of hsp (by rw [e9, erb]; exact hth.trans th1) rfl (ry_gr hT hsm.1 hh huT hn (by rw [e9, erb]; rfl) (by rw [e9, erb]; rfl) (by rw [e9, erb]; rfl) (by rw [e9, erb]; rfl) (fun g => by rw [e9, erb]; rfl) (fun g => by rw [e9, erb]; rfl) (by rw [e9, erb, hnT]; rfl) (by rw [e9, erb, hnT]; rfl) (by rw [e9, erb]; rfl))) hl
                · skip
                  rw [sp_gr_n e1] at hsp
                  refine gs_eq (y := (-1)) (by rw [hres, e1]; rfl) ?_
                  refine lv_istore (lv' := [(4, .int ((-1))), (3, .int (nI (hs_n S h))), (0, .ref (q 0)), (1, .int (nI h)), (2, .int (nI n))]) C0.1.1 C0.1.2.1 dX1_resize_151 hl (by decide) rfl (fun ls hl => ?_)
                  refine lv_iload C0.1.1 C0.1.2.1 dX1_resize_153 (lv_at hl 0 rfl) ?_
                  refine lv_if_ge (tgt := 160) C0.1.1 C0.1.2.1 dX1_resize_155 (by decide) (fun c9 => absurd c9 (by decide)) (fun _ => ?_)
                  refine lv_iconst (v := nI 0) C0.1.1 C0.1.2.1 dX1_resize_158 (by decide) ?_
                  exact gs_retz u C0 hz (by decide) (py_of hsp (hth.trans th1) rfl hT) (Nat.le_of_ble_eq_true rfl) (Nat.le_of_ble_eq_true rfl) dX1_resize_159
              · skip
                rw [bI_0, Bool.not_eq_false] at c5
                rw [if_neg (by unfold hs_mv; rw [c5, c4]; exact fun z => by cases z)] at hsp
                refine lv_iconst (v := nI 0) C0.1.1 C0.1.2.1 dX1_resize_143 (by decide) ?_
                exact gs_retz r1 C0 hz (by decide) (py_of hsp th1 rfl hS1) (Nat.le_of_ble_eq_true rfl) (Nat.le_of_ble_eq_true rfl) dX1_resize_144
      · rw [n0_eq (by omega)] at c1
        have hu1 : hs_u S h = 1 := by omega
        rw [if_pos hu1] at hsp
        obtain ⟨hsm, hok⟩ := hs_room_ok hI n 48
        have hrb := hs_room_b hI (n := n) (h := h) (by omega)
        refine lv_aload_n C0.1.1 C0.1.2.1 dX1_resize_44 rfl (lv_at hl 1 rfl) ?_
        refine lv_iload_n C0.1.1 C0.1.2.1 dX1_resize_45 rfl (lv_at hl 3 rfl) ?_
        refine lv_iload_n C0.1.1 C0.1.2.1 dX1_resize_46 rfl (lv_at hl 2 rfl) ?_
        refine gs_callVi (w := yw G q) (wr := []) C0.1 (m_room l G q r1 S hS1 hI n hn1 hn h (nI h) (Or.inl ⟨hh, rfl⟩)) (cwV 2 C0.1.2.2.2.2 gX1_resize_X1_room rfl rfl rfl (by decide +kernel) ⟨Nat.le_of_ble_eq_true rfl, Nat.le_of_ble_eq_true rfl⟩) (ci := 1) rfl rfl rfl (gs_nil hz) rfl hl.1 rfl (Nat.le_of_ble_eq_true rfl) dX1_resize_47 ⟨Nat.le_of_ble_eq_true rfl, Nat.le_of_ble_eq_true rfl⟩ (fun res u H locs hp hz => ?_)
        replace hz := gs_unnil hz
        rw [hrb] at hp
        obtain ⟨⟨hT, hres⟩, hth⟩ := hp
        rcases op_cases (hs_room S n 48).2 with ⟨k1, e1⟩ | e1
        · skip
          obtain ⟨hk1, hk2⟩ := hok k1 e1
          have hend := hs_gap_e hsm.1 hk1 hk2
          have huT : hs_u (hs_room S n 48).1 h = 1 := by rw [hsm.2.1 h hh (by omega)]; exact hu1
          have husT : y_us u h = nI 1 := by rw [hT.1 h hh, huT]; rfl
          have hus : ∀ g, y_us u g = if g = h then nI 1 else y_us u g := by
            intro g
            by_cases z : g = h
            · rw [if_pos z, z]; exact husT
            · rw [if_neg z]
          rw [sp_mk_s e1] at hsp
          refine gs_eq (y := nI (hs_gb (hs_room S n 48).1 k1)) (by rw [hres, e1]; rfl) ?_
          refine lv_istore (lv' := [(4, .int (nI (hs_gb (hs_room S n 48).1 k1))), (3, .int (nI (hs_n S h))), (0, .ref (q 0)), (1, .int (nI h)), (2, .int (nI n))]) C0.1.1 C0.1.2.1 dX1_resize_50 hl (by decide) rfl (fun ls hl => ?_)
          refine lv_iload C0.1.1 C0.1.2.1 dX1_resize_52 (lv_at hl 0 rfl) ?_
          refine lv_if_lt (tgt := 86) C0.1.1 C0.1.2.1 dX1_resize_54 (by decide) (fun c9 => absurd c9 (nI_pos (by omega))) (fun _ => ?_)
          refine lv_aload_n C0.1.1 C0.1.2.1 dX1_resize_57 rfl (lv_at hl 2 rfl) ?_
          refine yg_fx C0 hin hz l_fx dX1_resize_58 ?_
          refine lv_iload_n C0.1.1 C0.1.2.1 dX1_resize_61 rfl (lv_at hl 3 rfl) ?_
          refine lv_iconst (v := nI 0) C0.1.1 C0.1.2.1 dX1_resize_62 (by decide) ?_
          refine yt_fx C0 hz h (by omega) rfl (by decide) dX1_resize_63 (fun H locs hz => ?_)
          refine lv_aload_n C0.1.1 C0.1.2.1 dX1_resize_64 rfl (lv_at hl 2 rfl) ?_
          refine yg_lk C0 hin hz l_lk dX1_resize_65 ?_
          refine lv_iload_n C0.1.1 C0.1.2.1 dX1_resize_68 rfl (lv_at hl 3 rfl) ?_
          refine lv_iconst (v := nI 0) C0.1.1 C0.1.2.1 dX1_resize_69 (by decide) ?_
          refine yt_lk C0 hz h (by omega) rfl (by decide) dX1_resize_70 (fun H locs hz => ?_)
          refine lv_aload_n C0.1.1 C0.1.2.1 dX1_resize_71 rfl (lv_at hl 2 rfl) ?_
          refine yg_ls C0 hin hz l_ls dX1_resize_72 ?_
          refine lv_iload_n C0.1.1 C0.1.2.1 dX1_resize_75 rfl (lv_at hl 3 rfl) ?_
          refine lv_iconst (v := nI 0) C0.1.1 C0.1.2.1 dX1_resize_76 (by decide) ?_
          refine yt_ls C0 hz h (by omega) rfl (by decide) dX1_resize_77 (fun H locs hz => ?_)
          refine lv_aload_n C0.1.1 C0.1.2.1 dX1_resize_78 rfl (lv_at hl 2 rfl) ?_
          refine lv_iload_n C0.1.1 C0.1.2.1 dX1_resize_79 rfl (lv_at hl 3 rfl) ?_
          refine lv_iload C0.1.1 C0.1.2.1 dX1_resize_80 (lv_at hl 0 rfl) ?_
          refine lv_iload_n C0.1.1 C0.1.2.1 dX1_resize_82 rfl (lv_at hl 4 rfl) ?_
          refine gs_callVv (w := yw G q) (wr := []) C0.1 (m_become l G q _ h (hs_gb (hs_room S n 48).1 k1) n hh hn) (cwV 3 C0.1.2.2.2.2 gX1_resize_X1_become rfl rfl rfl (by decide +kernel) ⟨Nat.le_of_ble_eq_true rfl, Nat.le_of_ble_eq_true rfl⟩) (ci := 1) rfl rfl rfl (gs_nil hz) rfl hl.1 rfl (Nat.le_of_ble_eq_true rfl) dX1_resize_83 ⟨Nat.le_of_ble_eq_true rfl, Nat.le_of_ble_eq_true rfl⟩ (fun u2 H locs hp hz => ?_)
          replace hz := gs_unnil hz
          refine lv_iload C0.1.1 C0.1.2.1 dX1_resize_86 (lv_at hl 0 rfl) ?_
          refine lv_if_lt (tgt := 95) C0.1.1 C0.1.2.1 dX1_resize_88 (by decide) (fun c9 => absurd c9 (nI_pos (by omega))) (fun _ => ?_)
          refine lv_iconst (v := nI 1) C0.1.1 C0.1.2.1 dX1_resize_91 (by decide) ?_
          refine lv_goto (tgt := 96) C0.1.1 C0.1.2.1 dX1_resize_92 (by decide) ?_
          exact gs_retz u2 C0 hz (by decide) (py_of hsp (by rw [hp]; exact hth.trans th1) rfl (by rw [hp]; exact ry_mk hT hsm.1 hn hus (fun _ => rfl) (fun _ => rfl) (fun _ => rfl) (fun _ => rfl) (fun _ => rfl) rfl rfl rfl)) (Nat.le_of_ble_eq_true rfl) (Nat.le_of_ble_eq_true rfl) dX1_resize_96
        · skip
          rw [sp_mk_n e1] at hsp
          refine gs_eq (y := (-1)) (by rw [hres, e1]; rfl) ?_
          refine lv_istore (lv' := [(4, .int ((-1))), (3, .int (nI (hs_n S h))), (0, .ref (q 0)), (1, .int (nI h)), (2, .int (nI n))]) C0.1.1 C0.1.2.1 dX1_resize_50 hl (by decide) rfl (fun ls hl => ?_)
          refine lv_iload C0.1.1 C0.1.2.1 dX1_resize_52 (lv_at hl 0 rfl) ?_
          refine lv_if_lt (tgt := 86) C0.1.1 C0.1.2.1 dX1_resize_54 (by decide) (fun _ => ?_) (fun c9 => absurd (by decide) c9)
          refine lv_iload C0.1.1 C0.1.2.1 dX1_resize_86 (lv_at hl 0 rfl) ?_
          refine lv_if_lt (tgt := 95) C0.1.1 C0.1.2.1 dX1_resize_88 (by decide) (fun _ => ?_) (fun c9 => absurd (by decide) c9)
          refine lv_iconst (v := nI 0) C0.1.1 C0.1.2.1 dX1_resize_95 (by decide) ?_
          exact gs_retz u C0 hz (by decide) (py_of hsp (hth.trans th1) rfl hT) (Nat.le_of_ble_eq_true rfl) (Nat.le_of_ble_eq_true rfl) dX1_resize_96
    · skip
      refine gs_eq (y := nI 1) (hp9) ?_
      refine lv_if_eq (tgt := 20) C0.1.1 C0.1.2.1 dX1_resize_13 (by decide) (fun c9 => absurd c9 (by decide)) (fun _ => ?_)
      refine lv_iconst (v := nI 1) C0.1.1 C0.1.2.1 dX1_resize_16 (by decide) ?_
      refine lv_goto (tgt := 21) C0.1.1 C0.1.2.1 dX1_resize_17 (by decide) ?_
      refine yp_th C0 hin hz l_th dX1_resize_21 (fun H locs hz => ?_)
      obtain ⟨r1, er1⟩ : ∃ z, z = ys_th r (nI 1) := ⟨_, rfl⟩
      rw [← er1] at hz
      refine lv_aload_n C0.1.1 C0.1.2.1 dX1_resize_24 rfl (lv_at hl 0 rfl) ?_
      refine yg_th C0 hin hz l_th dX1_resize_25 ?_
      refine gs_eq (y := nI 1) (by rw [er1]; rfl) ?_
      refine lv_if_le (tgt := 33) C0.1.1 C0.1.2.1 dX1_resize_28 (by decide) (fun c9 => absurd c9 (by decide)) (fun _ => ?_)
      refine lv_iconst (v := nI 0) C0.1.1 C0.1.2.1 dX1_resize_31 (by decide) ?_
      exact gs_retz r1 C0 hz (by decide) (py_x (sp_resize_x hh hu hno) (by decide) (by rw [er1]; rfl) (by rw [er1]; exact hS)) (Nat.le_of_ble_eq_true rfl) (Nat.le_of_ble_eq_true rfl) dX1_resize_32
  · skip
    refine gs_eq (y := nI 1) (hp9) ?_
    refine lv_if_ne (tgt := 16) C0.1.1 C0.1.2.1 dX1_resize_6 (by decide) (fun _ => ?_) (fun c9 => absurd c9 (by decide))
    refine lv_iconst (v := nI 1) C0.1.1 C0.1.2.1 dX1_resize_16 (by decide) ?_
    refine lv_goto (tgt := 21) C0.1.1 C0.1.2.1 dX1_resize_17 (by decide) ?_
    refine yp_th C0 hin hz l_th dX1_resize_21 (fun H locs hz => ?_)
    obtain ⟨r1, er1⟩ : ∃ z, z = ys_th r (nI 1) := ⟨_, rfl⟩
    rw [← er1] at hz
    refine lv_aload_n C0.1.1 C0.1.2.1 dX1_resize_24 rfl (lv_at hl 0 rfl) ?_
    refine yg_th C0 hin hz l_th dX1_resize_25 ?_
    refine gs_eq (y := nI 1) (by rw [er1]; rfl) ?_
    refine lv_if_le (tgt := 33) C0.1.1 C0.1.2.1 dX1_resize_28 (by decide) (fun c9 => absurd c9 (by decide)) (fun _ => ?_)
    refine lv_iconst (v := nI 0) C0.1.1 C0.1.2.1 dX1_resize_31 (by decide) ?_
    exact gs_retz r1 C0 hz (by decide) (py_x (sp_use_no hno) (by decide) (by rw [er1]; rfl) (by rw [er1]; exact hS)) (Nat.le_of_ble_eq_true rfl) (Nat.le_of_ble_eq_true rfl) dX1_resize_32
