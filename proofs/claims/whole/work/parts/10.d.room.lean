/-! HandleHeap: room, blocks made and grown; counting handles -/
theorem xb_m1 {u b : Nat} (hb : u = 2 → b ≤ 1024) (hu : u ≤ 2) : xb u b = -1 ↔ u = 0 := by
  unfold xb
  by_cases q : u = 0
  · rw [if_pos q]; exact ⟨fun _ => q, fun _ => rfl⟩
  · rw [if_neg q]
    by_cases q2 : u = 1
    · rw [if_pos q2]; exact ⟨fun z => absurd z (by decide), fun z => absurd z q⟩
    · rw [if_neg q2]
      have := hb (by omega)
      exact ⟨fun z => absurd z (n0_ne (by omega)), fun z => absurd z q⟩
theorem xb_m2 {u b : Nat} (hb : u = 2 → b ≤ 1024) (hu : u ≤ 2) : xb u b = -2 ↔ u = 1 := by
  unfold xb
  by_cases q : u = 0
  · rw [if_pos q]; exact ⟨fun z => absurd z (by decide), fun z => by omega⟩
  · rw [if_neg q]
    by_cases q2 : u = 1
    · rw [if_pos q2]; exact ⟨fun _ => q2, fun _ => rfl⟩
    · rw [if_neg q2]
      have := hb (by omega)
      exact ⟨fun z => absurd z (n0_ne2 (by omega)), fun z => absurd z q2⟩
theorem op_cases (o : Option Nat) : (∃ k, o = some k) ∨ o = none := by
  cases o with
  | none => exact Or.inr rfl
  | some k => exact Or.inl ⟨k, rfl⟩
theorem hs_I.u2 {S : hs_S} (hI : hs_I S) {h : Nat} (hh : h < 48) : hs_u S h ≤ 2 := by
  by_cases q : hs_u S h = 2
  · omega
  · have := (hI.2.2 h hh q).2; omega
theorem hs_I.bn {S : hs_S} (hI : hs_I S) {h : Nat} (hh : h < 48) (hu : hs_u S h = 2) : hs_b S h + hs_n S h ≤ 1024 ∧ 1 ≤ hs_n S h := by
  obtain ⟨k, hk, rfl⟩ := hg_at_of ((hI.2.1 h).mpr ⟨hh, hu⟩)
  exact ⟨hg_end hI.1 hk, hI.1.2 k hk⟩
theorem hs_I.b2 {S : hs_S} (hI : hs_I S) {h : Nat} (hh : h < 48) : hs_u S h = 2 → hs_b S h ≤ 1024 := fun hu => by
  have := (hI.bn hh hu).1
  omega
set_option maxHeartbeats 4000000 in
set_option maxRecDepth 100000 in
/-- findRoom -/
theorem k_findRoom (l : Launch) (G : gs_G) (q : Nat → Nat) (r : xr) (S : hs_S) (hS : rx S r) (hI : hs_I S) (n : Nat) (hn : n ≤ 1024) (but : Nat) (sp : Int32) (hsp : (but < 48 ∧ sp = nI but) ∨ (but = 48 ∧ sp = -1)) : gm_i l yX0_findRoom wsX0_findRoom (gm_rm 5 0 0) G (xw G q) r [.ref (q 0), .int (nI n), .int sp] (fun res u => rx (hs_room S n but).1 u ∧ res = oi ((hs_room S n but).2.map (hs_gb (hs_room S n but).1))) 0 0 := by
  refine gm_i.of (cc := cX0_findRoom) (nL := 5) (ret := (some .int)) (by decide +kernel) rfl (Nat.le_of_ble_eq_true rfl) ?_
  intro p e s m args below meth c ls C0 hz hl
  have hl : lv_has ls 5 [(0, .ref (q 0)), (1, .int (nI n)), (2, .int sp)] := hl
  refine lv_aload_n C0.1.1 C0.1.2.1 dX0_findRoom_0 rfl (lv_at hl 0 rfl) ?_
  refine lv_iload_n C0.1.1 C0.1.2.1 dX0_findRoom_1 rfl (lv_at hl 1 rfl) ?_
  refine gs_callVi (w := xw G q) (wr := []) C0.1 (k_firstGapOf l G q r S hS hI.J n hn) (cwV 1 C0.1.2.2.2.2 gX0_findRoom_X0_firstGapOf rfl rfl rfl (by decide +kernel) ⟨Nat.le_of_ble_eq_true rfl, Nat.le_of_ble_eq_true rfl⟩) (ci := 0) rfl rfl rfl (gs_nil hz) rfl hl.1 rfl (Nat.le_of_ble_eq_true rfl) dX0_findRoom_2 ⟨Nat.le_of_ble_eq_true rfl, Nat.le_of_ble_eq_true rfl⟩ (fun res u9 H locs hp9 hz => ?_)
  replace hz := gs_unnil hz
  rw [hp9.1] at hz
  refine gs_eq (y := oi (hs_pk S n)) (hp9.2) ?_
  clear hp9
  refine lv_istore_n (lv' := [(3, .int (oi (hs_pk S n))), (0, .ref (q 0)), (1, .int (nI n)), (2, .int sp)]) C0.1.1 C0.1.2.1 dX0_findRoom_5 rfl hl (by decide) rfl (fun ls hl => ?_)
  refine lv_iload_n C0.1.1 C0.1.2.1 dX0_findRoom_6 rfl (lv_at hl 0 rfl) ?_
  refine lv_iconst (v := (-1)) C0.1.1 C0.1.2.1 dX0_findRoom_7 (by decide) ?_
  have go24 : ∀ (d : Nat) (T : hs_S) (rk : xr) (ls : Array Slot) (H : Heap) (locs : List Loc), gs_Z G (xw G q rk) (va_A (xw G q r) s.heap.size) s H locs → d ≤ 48 → rx T rk → hs_I T → hs_room S n but = hs_rm n but d T → lv_has ls 5 [(0, .ref (q 0)), (1, .int (nI n)), (2, .int sp), (3, .int (oi (hs_pk T n))), (4, .int (nI (48 - d)))] → W p l e (gm_rm 5 0 0) s m args below meth c H locs 0 0 (MQ below (va_Qi (fun res u => rx (hs_room S n but).1 u ∧ res = oi ((hs_room S n but).2.map (hs_gb (hs_room S n but).1))) (fun u t => gm_B G (xw G q r) s.heap.size (xw G q u) t) (va_A (xw G q r) s.heap.size)) args s 0 0 (va_A (xw G q r) s.heap.size)) (F0 m 24 ls []) := by
    intro d
    induction d using Nat.strongRecOn with
    | _ d ih =>
      intro T rk ls H locs hz hd hT1 hT2 key hl
      refine lv_iload C0.1.1 C0.1.2.1 dX0_findRoom_24 (lv_at hl 4 rfl) ?_
      refine lv_bipush (v := nI 48) C0.1.1 C0.1.2.1 dX0_findRoom_26 (by decide) ?_
      refine lv_icmp_ge (tgt := 60) C0.1.1 C0.1.2.1 dX0_findRoom_28 (by decide) (fun c1 => ?_) (fun c1 => ?_)
      · rw [nI_leI (by omega) (by omega)] at c1
        obtain rfl : d = 0 := by omega
        have e9 : hs_room S n but = (T, hs_pk T n) := key
        cases hk : hs_pk T n with
        | some k =>
          have hok := hs_pk_ok hk
          have hlenT := hT2.J.len
          have e3 : oi (hs_pk T n) = nI k := by rw [hk]; rfl
          rw [e3] at hl
          refine lv_iload_n C0.1.1 C0.1.2.1 dX0_findRoom_60 rfl (lv_at hl 3 rfl) ?_
          refine lv_iconst (v := (-1)) C0.1.1 C0.1.2.1 dX0_findRoom_61 (by decide) ?_
          refine lv_icmp_ne (tgt := 69) C0.1.1 C0.1.2.1 dX0_findRoom_62 (by decide) (fun c9 => ?_) (fun c9 => ?_)
          · skip
            refine lv_aload_n C0.1.1 C0.1.2.1 dX0_findRoom_69 rfl (lv_at hl 0 rfl) ?_
            refine lv_iload_n C0.1.1 C0.1.2.1 dX0_findRoom_70 rfl (lv_at hl 3 rfl) ?_
            refine gs_callVi (w := xw G q) (wr := []) C0.1 (k_gapBegin l G q rk T hT1 hT2.J k hok.1) (cwV 1 C0.1.2.2.2.2 gX0_findRoom_X0_gapBegin rfl rfl rfl (by decide +kernel) ⟨Nat.le_of_ble_eq_true rfl, Nat.le_of_ble_eq_true rfl⟩) (ci := 0) rfl rfl rfl (gs_nil hz) rfl hl.1 rfl (Nat.le_of_ble_eq_true rfl) dX0_findRoom_71 ⟨Nat.le_of_ble_eq_true rfl, Nat.le_of_ble_eq_true rfl⟩ (fun res u9 H locs hp9 hz => ?_)
            replace hz := gs_unnil hz
            rw [hp9.1] at hz
            refine gs_eq (y := nI (hs_gb T k)) (hp9.2) ?_
            clear hp9
            exact gs_reti rk C0 hz (by rw [e9]; dsimp only; rw [hk]; exact ⟨hT1, rfl⟩) (Nat.le_of_ble_eq_true rfl) (Nat.le_of_ble_eq_true rfl) dX0_findRoom_74
          · skip
            exact absurd c9 (n0_ne (by omega))
        | none =>
          have e3 : oi (hs_pk T n) = -1 := by rw [hk]; rfl
          rw [e3] at hl
          refine lv_iload_n C0.1.1 C0.1.2.1 dX0_findRoom_60 rfl (lv_at hl 3 rfl) ?_
          refine lv_iconst (v := (-1)) C0.1.1 C0.1.2.1 dX0_findRoom_61 (by decide) ?_
          refine lv_icmp_ne (tgt := 69) C0.1.1 C0.1.2.1 dX0_findRoom_62 (by decide) (fun c9 => ?_) (fun c9 => ?_)
          · skip
            exact absurd rfl c9
          · skip
            refine lv_iconst (v := (-1)) C0.1.1 C0.1.2.1 dX0_findRoom_65 (by decide) ?_
            refine lv_goto (tgt := 74) C0.1.1 C0.1.2.1 dX0_findRoom_66 (by decide) ?_
            exact gs_reti rk C0 hz (by rw [e9]; dsimp only; rw [hk]; exact ⟨hT1, rfl⟩) (Nat.le_of_ble_eq_true rfl) (Nat.le_of_ble_eq_true rfl) dX0_findRoom_74
      · rw [nI_leI (by omega) (by omega)] at c1
        obtain ⟨d', rfl⟩ : ∃ d', d = d' + 1 := ⟨d - 1, by omega⟩
        cases hk0 : hs_pk T n with
        | some k0 =>
          have e3 : oi (hs_pk T n) = nI k0 := by rw [hk0]; rfl
          have hok0 := hs_pk_ok hk0
          have hlenT0 := hT2.J.len
          have e9 : hs_room S n but = (T, hs_pk T n) := by rw [key, hs_rm, hk0]
          refine lv_iload_n C0.1.1 C0.1.2.1 dX0_findRoom_31 rfl (lv_at hl 3 rfl) ?_
          refine lv_iconst (v := (-1)) C0.1.1 C0.1.2.1 dX0_findRoom_32 (by decide) ?_
          refine lv_icmp_ne (tgt := 60) C0.1.1 C0.1.2.1 dX0_findRoom_33 (by decide) (fun c2 => ?_) (fun c2 => ?_)
          · skip
            cases hk : hs_pk T n with
            | some k =>
              have hok := hs_pk_ok hk
              have hlenT := hT2.J.len
              have e3 : oi (hs_pk T n) = nI k := by rw [hk]; rfl
              rw [e3] at hl
              refine lv_iload_n C0.1.1 C0.1.2.1 dX0_findRoom_60 rfl (lv_at hl 3 rfl) ?_
              refine lv_iconst (v := (-1)) C0.1.1 C0.1.2.1 dX0_findRoom_61 (by decide) ?_
              refine lv_icmp_ne (tgt := 69) C0.1.1 C0.1.2.1 dX0_findRoom_62 (by decide) (fun c9 => ?_) (fun c9 => ?_)
              · skip
                refine lv_aload_n C0.1.1 C0.1.2.1 dX0_findRoom_69 rfl (lv_at hl 0 rfl) ?_
                refine lv_iload_n C0.1.1 C0.1.2.1 dX0_findRoom_70 rfl (lv_at hl 3 rfl) ?_
                refine gs_callVi (w := xw G q) (wr := []) C0.1 (k_gapBegin l G q rk T hT1 hT2.J k hok.1) (cwV 1 C0.1.2.2.2.2 gX0_findRoom_X0_gapBegin rfl rfl rfl (by decide +kernel) ⟨Nat.le_of_ble_eq_true rfl, Nat.le_of_ble_eq_true rfl⟩) (ci := 0) rfl rfl rfl (gs_nil hz) rfl hl.1 rfl (Nat.le_of_ble_eq_true rfl) dX0_findRoom_71 ⟨Nat.le_of_ble_eq_true rfl, Nat.le_of_ble_eq_true rfl⟩ (fun res u9 H locs hp9 hz => ?_)
                replace hz := gs_unnil hz
                rw [hp9.1] at hz
                refine gs_eq (y := nI (hs_gb T k)) (hp9.2) ?_
                clear hp9
                exact gs_reti rk C0 hz (by rw [e9]; dsimp only; rw [hk]; exact ⟨hT1, rfl⟩) (Nat.le_of_ble_eq_true rfl) (Nat.le_of_ble_eq_true rfl) dX0_findRoom_74
              · skip
                exact absurd c9 (n0_ne (by omega))
            | none =>
              have e3 : oi (hs_pk T n) = -1 := by rw [hk]; rfl
              rw [e3] at hl
              refine lv_iload_n C0.1.1 C0.1.2.1 dX0_findRoom_60 rfl (lv_at hl 3 rfl) ?_
              refine lv_iconst (v := (-1)) C0.1.1 C0.1.2.1 dX0_findRoom_61 (by decide) ?_
              refine lv_icmp_ne (tgt := 69) C0.1.1 C0.1.2.1 dX0_findRoom_62 (by decide) (fun c9 => ?_) (fun c9 => ?_)
              · skip
                exact absurd rfl c9
              · skip
                refine lv_iconst (v := (-1)) C0.1.1 C0.1.2.1 dX0_findRoom_65 (by decide) ?_
                refine lv_goto (tgt := 74) C0.1.1 C0.1.2.1 dX0_findRoom_66 (by decide) ?_
                exact gs_reti rk C0 hz (by rw [e9]; dsimp only; rw [hk]; exact ⟨hT1, rfl⟩) (Nat.le_of_ble_eq_true rfl) (Nat.le_of_ble_eq_true rfl) dX0_findRoom_74
          · skip
            rw [e3] at c2
            exact absurd c2 (n0_ne (by omega))
        | none =>
          have e3 : oi (hs_pk T n) = -1 := by rw [hk0]; rfl
          refine lv_iload_n C0.1.1 C0.1.2.1 dX0_findRoom_31 rfl (lv_at hl 3 rfl) ?_
          refine lv_iconst (v := (-1)) C0.1.1 C0.1.2.1 dX0_findRoom_32 (by decide) ?_
          refine lv_icmp_ne (tgt := 60) C0.1.1 C0.1.2.1 dX0_findRoom_33 (by decide) (fun c2 => ?_) (fun c2 => ?_)
          · skip
            exact absurd e3 c2
          · skip
            refine lv_aload_n C0.1.1 C0.1.2.1 dX0_findRoom_36 rfl (lv_at hl 0 rfl) ?_
            refine lv_iload_n C0.1.1 C0.1.2.1 dX0_findRoom_37 rfl (lv_at hl 2 rfl) ?_
            refine gs_callVi (w := xw G q) (wr := []) C0.1 (k_giveUpFirst l G q rk T hT1 hT2.J but sp hsp) (cwV 1 C0.1.2.2.2.2 gX0_findRoom_X0_giveUpFirst rfl rfl rfl (by decide +kernel) ⟨Nat.le_of_ble_eq_true rfl, Nat.le_of_ble_eq_true rfl⟩) (ci := 0) rfl rfl rfl (gs_nil hz) rfl hl.1 rfl (Nat.le_of_ble_eq_true rfl) dX0_findRoom_38 ⟨Nat.le_of_ble_eq_true rfl, Nat.le_of_ble_eq_true rfl⟩ (fun res u H locs hp hz => ?_)
            replace hz := gs_unnil hz
            cases h1 : hs_l1 T but with
            | none =>
              rw [h1] at hp
              obtain ⟨hp1, hp2⟩ := hp
              rw [hp2] at hz
              refine gs_eq (y := nI 0) hp1 ?_
              have e9 : hs_room S n but = (T, hs_pk T n) := by rw [key, hs_rm, hk0]; dsimp only; rw [h1]
              refine lv_if_eq (tgt := 60) C0.1.1 C0.1.2.1 dX0_findRoom_41 (by decide) (fun c3 => ?_) (fun c3 => ?_)
              · rw [n0_eq (by omega)] at c3
                cases hk : hs_pk T n with
                | some k =>
                  have hok := hs_pk_ok hk
                  have hlenT := hT2.J.len
                  have e3 : oi (hs_pk T n) = nI k := by rw [hk]; rfl
                  rw [e3] at hl
                  refine lv_iload_n C0.1.1 C0.1.2.1 dX0_findRoom_60 rfl (lv_at hl 3 rfl) ?_
                  refine lv_iconst (v := (-1)) C0.1.1 C0.1.2.1 dX0_findRoom_61 (by decide) ?_
                  refine lv_icmp_ne (tgt := 69) C0.1.1 C0.1.2.1 dX0_findRoom_62 (by decide) (fun c9 => ?_) (fun c9 => ?_)
                  · skip
                    refine lv_aload_n C0.1.1 C0.1.2.1 dX0_findRoom_69 rfl (lv_at hl 0 rfl) ?_
                    refine lv_iload_n C0.1.1 C0.1.2.1 dX0_findRoom_70 rfl (lv_at hl 3 rfl) ?_
                    refine gs_callVi (w := xw G q) (wr := []) C0.1 (k_gapBegin l G q rk T hT1 hT2.J k hok.1) (cwV 1 C0.1.2.2.2.2 gX0_findRoom_X0_gapBegin rfl rfl rfl (by decide +kernel) ⟨Nat.le_of_ble_eq_true rfl, Nat.le_of_ble_eq_true rfl⟩) (ci := 0) rfl rfl rfl (gs_nil hz) rfl hl.1 rfl (Nat.le_of_ble_eq_true rfl) dX0_findRoom_71 ⟨Nat.le_of_ble_eq_true rfl, Nat.le_of_ble_eq_true rfl⟩ (fun res u9 H locs hp9 hz => ?_)
                    replace hz := gs_unnil hz
                    rw [hp9.1] at hz
                    refine gs_eq (y := nI (hs_gb T k)) (hp9.2) ?_
                    clear hp9
                    exact gs_reti rk C0 hz (by rw [e9]; dsimp only; rw [hk]; exact ⟨hT1, rfl⟩) (Nat.le_of_ble_eq_true rfl) (Nat.le_of_ble_eq_true rfl) dX0_findRoom_74
                  · skip
                    exact absurd c9 (n0_ne (by omega))
                | none =>
                  have e3 : oi (hs_pk T n) = -1 := by rw [hk]; rfl
                  rw [e3] at hl
                  refine lv_iload_n C0.1.1 C0.1.2.1 dX0_findRoom_60 rfl (lv_at hl 3 rfl) ?_
                  refine lv_iconst (v := (-1)) C0.1.1 C0.1.2.1 dX0_findRoom_61 (by decide) ?_
                  refine lv_icmp_ne (tgt := 69) C0.1.1 C0.1.2.1 dX0_findRoom_62 (by decide) (fun c9 => ?_) (fun c9 => ?_)
                  · skip
                    exact absurd rfl c9
                  · skip
                    refine lv_iconst (v := (-1)) C0.1.1 C0.1.2.1 dX0_findRoom_65 (by decide) ?_
                    refine lv_goto (tgt := 74) C0.1.1 C0.1.2.1 dX0_findRoom_66 (by decide) ?_
                    exact gs_reti rk C0 hz (by rw [e9]; dsimp only; rw [hk]; exact ⟨hT1, rfl⟩) (Nat.le_of_ble_eq_true rfl) (Nat.le_of_ble_eq_true rfl) dX0_findRoom_74
              · rw [n0_eq (by omega)] at c3
                exact absurd rfl c3
            | some x =>
              rw [h1] at hp
              obtain ⟨hp1, hp2⟩ := hp
              refine gs_eq (y := nI 1) hp1 ?_
              refine lv_if_eq (tgt := 60) C0.1.1 C0.1.2.1 dX0_findRoom_41 (by decide) (fun c3 => ?_) (fun c3 => ?_)
              · rw [n0_eq (by omega)] at c3
                exact absurd c3 (by decide)
              · rw [n0_eq (by omega)] at c3
                refine lv_aload_n C0.1.1 C0.1.2.1 dX0_findRoom_44 rfl (lv_at hl 0 rfl) ?_
                refine gs_callVv (w := xw G q) (wr := []) C0.1 (k_slideTogether l G q u _ hp2 (hs_gu_I hT2)) (cwV 0 C0.1.2.2.2.2 gX0_findRoom_X0_slideTogether rfl rfl rfl (by decide +kernel) ⟨Nat.le_of_ble_eq_true rfl, Nat.le_of_ble_eq_true rfl⟩) (ci := 0) rfl rfl rfl (gs_nil hz) rfl hl.1 rfl (Nat.le_of_ble_eq_true rfl) dX0_findRoom_45 ⟨Nat.le_of_ble_eq_true rfl, Nat.le_of_ble_eq_true rfl⟩ (fun u2 H locs hp hz => ?_)
                replace hz := gs_unnil hz
                refine lv_aload_n C0.1.1 C0.1.2.1 dX0_findRoom_48 rfl (lv_at hl 0 rfl) ?_
                refine lv_iload_n C0.1.1 C0.1.2.1 dX0_findRoom_49 rfl (lv_at hl 1 rfl) ?_
                refine gs_callVi (w := xw G q) (wr := []) C0.1 (k_firstGapOf l G q u2 (hs_sl (hs_gu T x)) hp (hs_sl_I (hs_gu_I hT2)).J n hn) (cwV 1 C0.1.2.2.2.2 gX0_findRoom_X0_firstGapOf rfl rfl rfl (by decide +kernel) ⟨Nat.le_of_ble_eq_true rfl, Nat.le_of_ble_eq_true rfl⟩) (ci := 0) rfl rfl rfl (gs_nil hz) rfl hl.1 rfl (Nat.le_of_ble_eq_true rfl) dX0_findRoom_50 ⟨Nat.le_of_ble_eq_true rfl, Nat.le_of_ble_eq_true rfl⟩ (fun res u9 H locs hp9 hz => ?_)
                replace hz := gs_unnil hz
                rw [hp9.1] at hz
                refine gs_eq (y := oi (hs_pk (hs_sl (hs_gu T x)) n)) (hp9.2) ?_
                clear hp9
                refine lv_istore_n (lv' := [(3, .int (oi (hs_pk (hs_sl (hs_gu T x)) n))), (0, .ref (q 0)), (1, .int (nI n)), (2, .int sp), (4, .int (nI (48 - (d' + 1))))]) C0.1.1 C0.1.2.1 dX0_findRoom_53 rfl hl (by decide) rfl (fun ls hl => ?_)
                refine lv_iinc (v := nI ((48 - (d' + 1)) + 1)) (lv' := [(4, .int (nI ((48 - (d' + 1)) + 1))), (3, .int (oi (hs_pk (hs_sl (hs_gu T x)) n))), (0, .ref (q 0)), (1, .int (nI n)), (2, .int sp)]) C0.1.1 C0.1.2.1 dX0_findRoom_54 hl (k := 4) rfl (nI_1 (48 - (d' + 1))) (by decide) rfl (fun ls hl => ?_)
                refine lv_goto (tgt := 24) C0.1.1 C0.1.2.1 dX0_findRoom_57 (by decide) ?_
                have hl : lv_has ls 5 [(0, .ref (q 0)), (1, .int (nI n)), (2, .int sp), (3, .int (oi (hs_pk (hs_sl (hs_gu T x)) n))), (4, .int (nI ((48 - (d' + 1)) + 1)))] := lv_sub hl [2, 3, 4, 1, 0] rfl
                have e5 : nI (48 - (d' + 1) + 1) = nI (48 - d') := by rw [show 48 - (d' + 1) + 1 = 48 - d' by omega]
                rw [e5] at hl
                exact ih d' (by omega) _ u2 ls _ _ hz (by omega) hp (hs_sl_I (hs_gu_I hT2)) (by rw [key, hs_rm, hk0]; dsimp only; rw [h1]) hl
  rcases op_cases (hs_pk S n) with ⟨k0, hk0⟩ | hk0
  · skip
    have hok0 := hs_pk_ok hk0
    have hlen0 := hI.J.len
    have e3 : oi (hs_pk S n) = nI k0 := by rw [hk0]; rfl
    have e4 : hs_room S n but = hs_rm n but 48 S := by unfold hs_room; rw [hk0]; show (S, some k0) = hs_rm n but (47 + 1) S; rw [hs_rm, hk0]
    refine lv_icmp_ne (tgt := 21) C0.1.1 C0.1.2.1 dX0_findRoom_8 (by decide) (fun c1 => ?_) (fun c1 => ?_)
    · skip
      refine lv_iconst (v := nI 0) C0.1.1 C0.1.2.1 dX0_findRoom_21 (by decide) ?_
      refine lv_istore (lv' := [(4, .int (nI 0)), (3, .int (oi (hs_pk S n))), (0, .ref (q 0)), (1, .int (nI n)), (2, .int sp)]) C0.1.1 C0.1.2.1 dX0_findRoom_22 hl (by decide) rfl (fun ls hl => ?_)
      have hl : lv_has ls 5 [(0, .ref (q 0)), (1, .int (nI n)), (2, .int sp), (3, .int (oi (hs_pk S n))), (4, .int (nI 0))] := lv_sub hl [2, 3, 4, 1, 0] rfl
      exact go24 48 S r ls _ _ hz (Nat.le_refl _) hS hI e4 hl
    · skip
      rw [e3] at c1
      exact absurd c1 (n0_ne (by omega))
  · skip
    have e3 : oi (hs_pk S n) = -1 := by rw [hk0]; rfl
    have e4 : hs_room S n but = hs_rm n but 48 (hs_sl S) := by unfold hs_room; rw [hk0]
    refine lv_icmp_ne (tgt := 21) C0.1.1 C0.1.2.1 dX0_findRoom_8 (by decide) (fun c1 => ?_) (fun c1 => ?_)
    · skip
      exact absurd e3 c1
    · skip
      refine lv_aload_n C0.1.1 C0.1.2.1 dX0_findRoom_11 rfl (lv_at hl 1 rfl) ?_
      refine gs_callVv (w := xw G q) (wr := []) C0.1 (k_slideTogether l G q r S hS hI) (cwV 0 C0.1.2.2.2.2 gX0_findRoom_X0_slideTogether rfl rfl rfl (by decide +kernel) ⟨Nat.le_of_ble_eq_true rfl, Nat.le_of_ble_eq_true rfl⟩) (ci := 0) rfl rfl rfl (gs_nil hz) rfl hl.1 rfl (Nat.le_of_ble_eq_true rfl) dX0_findRoom_12 ⟨Nat.le_of_ble_eq_true rfl, Nat.le_of_ble_eq_true rfl⟩ (fun u H locs hp hz => ?_)
      replace hz := gs_unnil hz
      refine lv_aload_n C0.1.1 C0.1.2.1 dX0_findRoom_15 rfl (lv_at hl 1 rfl) ?_
      refine lv_iload_n C0.1.1 C0.1.2.1 dX0_findRoom_16 rfl (lv_at hl 2 rfl) ?_
      refine gs_callVi (w := xw G q) (wr := []) C0.1 (k_firstGapOf l G q u (hs_sl S) hp (hs_sl_I hI).J n hn) (cwV 1 C0.1.2.2.2.2 gX0_findRoom_X0_firstGapOf rfl rfl rfl (by decide +kernel) ⟨Nat.le_of_ble_eq_true rfl, Nat.le_of_ble_eq_true rfl⟩) (ci := 0) rfl rfl rfl (gs_nil hz) rfl hl.1 rfl (Nat.le_of_ble_eq_true rfl) dX0_findRoom_17 ⟨Nat.le_of_ble_eq_true rfl, Nat.le_of_ble_eq_true rfl⟩ (fun res u9 H locs hp9 hz => ?_)
      replace hz := gs_unnil hz
      rw [hp9.1] at hz
      refine gs_eq (y := oi (hs_pk (hs_sl S) n)) (hp9.2) ?_
      clear hp9
      refine lv_istore_n (lv' := [(3, .int (oi (hs_pk (hs_sl S) n))), (0, .ref (q 0)), (1, .int (nI n)), (2, .int sp)]) C0.1.1 C0.1.2.1 dX0_findRoom_20 rfl hl (by decide) rfl (fun ls hl => ?_)
      refine lv_iconst (v := nI 0) C0.1.1 C0.1.2.1 dX0_findRoom_21 (by decide) ?_
      refine lv_istore (lv' := [(4, .int (nI 0)), (3, .int (oi (hs_pk (hs_sl S) n))), (0, .ref (q 0)), (1, .int (nI n)), (2, .int sp)]) C0.1.1 C0.1.2.1 dX0_findRoom_22 hl (by decide) rfl (fun ls hl => ?_)
      have hl : lv_has ls 5 [(0, .ref (q 0)), (1, .int (nI n)), (2, .int sp), (3, .int (oi (hs_pk (hs_sl S) n))), (4, .int (nI 0))] := lv_sub hl [2, 3, 4, 1, 0] rfl
      exact go24 48 (hs_sl S) u ls _ _ hz (Nat.le_refl _) hp (hs_sl_I hI) e4 hl
set_option maxHeartbeats 4000000 in
set_option maxRecDepth 100000 in
/-- makeBlock -/
theorem k_makeBlock (l : Launch) (G : gs_G) (q : Nat → Nat) (r : xr) (S : hs_S) (hS : rx S r) (hI : hs_I S) (h n : Nat) (fx : Bool) (hh : h < 48) (hu : hs_u S h ≠ 2) (hn1 : 1 ≤ n) (hn : n ≤ 1024) : gm_i l yX0_makeBlock wsX0_makeBlock (gm_rm 6 0 0) G (xw G q) r [.ref (q 0), .int (nI h), .int (nI n), .int (bI fx)] (fun res u => (∀ k, (hs_room S n 48).2 = some k → res = nI 1 ∧ rx (hs_mk (hs_room S n 48).1 h (hs_gb (hs_room S n 48).1 k) n fx) u) ∧ ((hs_room S n 48).2 = none → res = nI 0 ∧ rx (hs_room S n 48).1 u)) 0 0 := by
  refine gm_i.of (cc := cX0_makeBlock) (nL := 5) (ret := (some .boolean)) (by decide +kernel) rfl (Nat.le_of_ble_eq_true rfl) ?_
  intro p e s m args below meth c ls C0 hz hl
  have hin : ∀ w ∈ wsX00, w ∈ wsX0_makeBlock := by decide +kernel
  have l_bg : Cond.fieldLink RX0 13 "HandleHeap" "begin" "[I" ∈ wsX0_makeBlock := by decide +kernel
  have l_fx : Cond.fieldLink RX0 25 "HandleHeap" "isFixed" "[Z" ∈ wsX0_makeBlock := by decide +kernel
  have l_lk : Cond.fieldLink RX0 29 "HandleHeap" "isLocked" "[Z" ∈ wsX0_makeBlock := by decide +kernel
  have l_ls : Cond.fieldLink RX0 32 "HandleHeap" "isLosable" "[Z" ∈ wsX0_makeBlock := by decide +kernel
  have hl : lv_has ls 5 [(0, .ref (q 0)), (1, .int (nI h)), (2, .int (nI n)), (3, .int (bI fx))] := hl
  obtain ⟨hsm, hok⟩ := hs_room_ok hI n 48
  refine lv_aload_n C0.1.1 C0.1.2.1 dX0_makeBlock_0 rfl (lv_at hl 0 rfl) ?_
  refine lv_iload_n C0.1.1 C0.1.2.1 dX0_makeBlock_1 rfl (lv_at hl 2 rfl) ?_
  refine lv_iconst (v := (-1)) C0.1.1 C0.1.2.1 dX0_makeBlock_2 (by decide) ?_
  refine gs_callVi (w := xw G q) (wr := []) C0.1 (k_findRoom l G q r S hS hI n hn 48 (-1) (Or.inr ⟨rfl, rfl⟩)) (cwV 2 C0.1.2.2.2.2 gX0_makeBlock_X0_findRoom rfl rfl rfl (by decide +kernel) ⟨Nat.le_of_ble_eq_true rfl, Nat.le_of_ble_eq_true rfl⟩) (ci := 0) rfl rfl rfl (gs_nil hz) rfl hl.1 rfl (Nat.le_of_ble_eq_true rfl) dX0_makeBlock_3 ⟨Nat.le_of_ble_eq_true rfl, Nat.le_of_ble_eq_true rfl⟩ (fun res u H locs hp hz => ?_)
  replace hz := gs_unnil hz
  obtain ⟨T, eT⟩ : ∃ z, z = (hs_room S n 48).1 := ⟨_, rfl⟩
  obtain ⟨o, eo⟩ : ∃ z, z = (hs_room S n 48).2 := ⟨_, rfl⟩
  rw [← eT, ← eo] at hp hok
  rw [← eT] at hsm
  rw [← eT, ← eo]
  obtain ⟨hT, hres⟩ := hp
  have hIT := hsm.1
  have huT : hs_u T h ≠ 2 := by rw [hsm.2.1 h hh hu]; exact hu
  have hnT : hs_n T h = 0 := (hIT.2.2 h hh huT).1
  cases o with
  | none =>
    refine gs_eq (y := -1) hres ?_
    refine lv_istore (lv' := [(4, .int (-1)), (0, .ref (q 0)), (1, .int (nI h)), (2, .int (nI n)), (3, .int (bI fx))]) C0.1.1 C0.1.2.1 dX0_makeBlock_6 hl (by decide) rfl (fun ls hl => ?_)
    refine lv_iload C0.1.1 C0.1.2.1 dX0_makeBlock_8 (lv_at hl 0 rfl) ?_
    refine lv_iconst (v := (-1)) C0.1.1 C0.1.2.1 dX0_makeBlock_10 (by decide) ?_
    refine lv_icmp_ne (tgt := 16) C0.1.1 C0.1.2.1 dX0_makeBlock_11 (by decide) (fun c1 => ?_) (fun c1 => ?_)
    · skip
      exact absurd rfl c1
    · skip
      refine lv_iconst (v := nI 0) C0.1.1 C0.1.2.1 dX0_makeBlock_14 (by decide) ?_
      exact gs_retz u C0 hz (by decide) (⟨fun k z => (by cases z), fun _ => ⟨rfl, hT⟩⟩) (Nat.le_of_ble_eq_true rfl) (Nat.le_of_ble_eq_true rfl) dX0_makeBlock_15
  | some k =>
    obtain ⟨hk1, hk2⟩ := hok k rfl
    have hend := hs_gap_e hIT hk1 hk2
    have hd := hs_gap_d hIT hk1 hk2
    obtain ⟨a, ea⟩ : ∃ z, z = hs_gb T k := ⟨_, rfl⟩
    rw [← ea] at hend hd
    refine gs_eq (y := nI a) (by rw [hres, ea]; rfl) ?_
    refine lv_istore (lv' := [(4, .int (nI a)), (0, .ref (q 0)), (1, .int (nI h)), (2, .int (nI n)), (3, .int (bI fx))]) C0.1.1 C0.1.2.1 dX0_makeBlock_6 hl (by decide) rfl (fun ls hl => ?_)
    refine lv_iload C0.1.1 C0.1.2.1 dX0_makeBlock_8 (lv_at hl 0 rfl) ?_
    refine lv_iconst (v := (-1)) C0.1.1 C0.1.2.1 dX0_makeBlock_10 (by decide) ?_
    refine lv_icmp_ne (tgt := 16) C0.1.1 C0.1.2.1 dX0_makeBlock_11 (by decide) (fun c1 => ?_) (fun c1 => ?_)
    · skip
      refine lv_aload_n C0.1.1 C0.1.2.1 dX0_makeBlock_16 rfl (lv_at hl 1 rfl) ?_
      refine xg_bg C0 hin hz l_bg dX0_makeBlock_17 ?_
      refine lv_iload_n C0.1.1 C0.1.2.1 dX0_makeBlock_20 rfl (lv_at hl 2 rfl) ?_
      refine lv_iload C0.1.1 C0.1.2.1 dX0_makeBlock_21 (lv_at hl 0 rfl) ?_
      refine xt_bg C0 hz h (by omega) rfl dX0_makeBlock_23 (fun H locs hz => ?_)
      have hz : gs_Z G (xw G q (xs_bg u (upd (x_bg u) h (nI a)))) _ s H locs := hz
      obtain ⟨r1, er1⟩ : ∃ z, z = xs_bg u (upd (x_bg u) h (nI a)) := ⟨_, rfl⟩
      rw [← er1] at hz
      refine lv_aload_n C0.1.1 C0.1.2.1 dX0_makeBlock_24 rfl (lv_at hl 1 rfl) ?_
      refine lv_iload_n C0.1.1 C0.1.2.1 dX0_makeBlock_25 rfl (lv_at hl 2 rfl) ?_
      refine lv_iload_n C0.1.1 C0.1.2.1 dX0_makeBlock_26 rfl (lv_at hl 3 rfl) ?_
      refine gs_callVv (w := xw G q) (wr := []) C0.1 (k_setLength l G q r1 h a 0 n hh (by rw [er1]; exact pk_us) (by rw [er1]; show x_ln u h = nI 0; rw [hT.2.1 h hh, hnT]) (by omega) hend) (cwV 2 C0.1.2.2.2.2 gX0_makeBlock_X0_setLength rfl rfl rfl (by decide +kernel) ⟨Nat.le_of_ble_eq_true rfl, Nat.le_of_ble_eq_true rfl⟩) (ci := 0) rfl rfl rfl (gs_nil hz) rfl hl.1 rfl (Nat.le_of_ble_eq_true rfl) dX0_makeBlock_27 ⟨Nat.le_of_ble_eq_true rfl, Nat.le_of_ble_eq_true rfl⟩ (fun r2 H locs hp hz => ?_)
      replace hz := gs_unnil hz
      refine lv_aload_n C0.1.1 C0.1.2.1 dX0_makeBlock_30 rfl (lv_at hl 1 rfl) ?_
      refine xg_fx C0 hin hz l_fx dX0_makeBlock_31 ?_
      refine lv_iload_n C0.1.1 C0.1.2.1 dX0_makeBlock_34 rfl (lv_at hl 2 rfl) ?_
      refine lv_iload_n C0.1.1 C0.1.2.1 dX0_makeBlock_35 rfl (lv_at hl 4 rfl) ?_
      refine xt_fx C0 hz h (by omega) rfl (bI_nar _) dX0_makeBlock_36 (fun H locs hz => ?_)
      refine lv_aload_n C0.1.1 C0.1.2.1 dX0_makeBlock_37 rfl (lv_at hl 1 rfl) ?_
      refine xg_lk C0 hin hz l_lk dX0_makeBlock_38 ?_
      refine lv_iload_n C0.1.1 C0.1.2.1 dX0_makeBlock_41 rfl (lv_at hl 2 rfl) ?_
      refine lv_iconst (v := nI 0) C0.1.1 C0.1.2.1 dX0_makeBlock_42 (by decide) ?_
      refine xt_lk C0 hz h (by omega) rfl (by decide) dX0_makeBlock_43 (fun H locs hz => ?_)
      refine lv_aload_n C0.1.1 C0.1.2.1 dX0_makeBlock_44 rfl (lv_at hl 1 rfl) ?_
      refine xg_ls C0 hin hz l_ls dX0_makeBlock_45 ?_
      refine lv_iload_n C0.1.1 C0.1.2.1 dX0_makeBlock_48 rfl (lv_at hl 2 rfl) ?_
      refine lv_iconst (v := nI 0) C0.1.1 C0.1.2.1 dX0_makeBlock_49 (by decide) ?_
      refine xt_ls C0 hz h (by omega) rfl (by decide) dX0_makeBlock_50 (fun H locs hz => ?_)
      have hout := hIT.out huT
      have hne : ∀ x, x ∈ hs_R T → x ≠ h := fun x hx e => hout (by rw [← e]; exact hx)
      obtain ⟨r3, er3⟩ : ∃ z, z = xs_ls (xs_lk (xs_fx r2 (upd (x_fx r2) h (bI fx))) (upd (x_lk r2) h (nI 0))) (upd (x_ls r2) h (nI 0)) := ⟨_, rfl⟩
      have hz : gs_Z G (xw G q r3) (va_A (xw G q r) s.heap.size) s H locs := by rw [er3]; exact hz
      refine lv_aload_n C0.1.1 C0.1.2.1 dX0_makeBlock_51 rfl (lv_at hl 1 rfl) ?_
      refine lv_iload_n C0.1.1 C0.1.2.1 dX0_makeBlock_52 rfl (lv_at hl 2 rfl) ?_
      have hA : ∀ x ∈ hs_R T, x < 48 ∧ x_bg r3 x = nI (va_up (hs_b T) h a x) ∧ va_up (hs_b T) h a x ≤ 1024 := by
        intro x hx
        have hx2 := (hIT.2.1 x).mp hx
        rw [er3, hp, er1, va_up_ne _ _ (hne x hx)]
        refine ⟨hx2.1, ?_, hIT.b2 hx2.1 hx2.2⟩
        show upd (x_bg u) h (nI a) x = nI (hs_b T x)
        rw [pk_un (hne x hx)]
        exact (hT.1 x hx2.1).trans (xb_2 hx2.2)
      have hB : x_bg r3 h = nI (va_up (hs_b T) h a h) ∧ va_up (hs_b T) h a h ≤ 1024 := by
        rw [er3, hp, er1, va_up_self]
        refine ⟨?_, by omega⟩
        show upd (x_bg u) h (nI a) h = nI a
        exact pk_us
      have hC : ∀ i j, i < j → j < (hs_R T).length → va_up (hs_b T) h a (hg_at (hs_R T) i) ≤ va_up (hs_b T) h a (hg_at (hs_R T) j) := by
        intro i j hij hj
        rw [va_up_ne _ _ (hne _ (hg_at_mem (by omega))), va_up_ne _ _ (hne _ (hg_at_mem hj))]
        have := hg_ord hIT.1 hij hj
        omega
      have hp2 := hp
      refine gs_callVv (w := xw G q) (wr := []) C0.1 (k_enterRow l G q r3 (hs_R T) (va_up (hs_b T) h a) (by rw [er3, hp, er1]; exact hT.2.2.2.1) (hIT.len47 hh hout) hA hC h hh hB) (cwV 1 C0.1.2.2.2.2 gX0_makeBlock_X0_enterRow rfl rfl rfl (by decide +kernel) ⟨Nat.le_of_ble_eq_true rfl, Nat.le_of_ble_eq_true rfl⟩) (ci := 0) rfl rfl rfl (gs_nil hz) rfl hl.1 rfl (Nat.le_of_ble_eq_true rfl) dX0_makeBlock_53 ⟨Nat.le_of_ble_eq_true rfl, Nat.le_of_ble_eq_true rfl⟩ (fun r4 H locs hp hz => ?_)
      replace hz := gs_unnil hz
      refine lv_iconst (v := nI 1) C0.1.1 C0.1.2.1 dX0_makeBlock_56 (by decide) ?_
      exact gs_retz r4 C0 hz (by decide) (⟨fun k' z => by cases z; obtain ⟨w, e4, hw⟩ := hp; refine ⟨rfl, ?_⟩; rw [← ea, e4, er3, hp2, er1]; exact rx_mk hT hh huT hnT hd hw, fun z => by cases z⟩) (Nat.le_of_ble_eq_true rfl) (Nat.le_of_ble_eq_true rfl) dX0_makeBlock_57
    · skip
      exact absurd c1 (n0_ne (by omega))
set_option maxHeartbeats 4000000 in
set_option maxRecDepth 100000 in
/-- growElsewhere -/
theorem k_growElsewhere (l : Launch) (G : gs_G) (q : Nat → Nat) (r : xr) (S : hs_S) (hS : rx S r) (hI : hs_I S) (h n : Nat) (hh : h < 48) (hu : hs_u S h = 2) (hn1 : hs_n S h ≤ n) (hn : n ≤ 1024) : gm_i l yX0_growElsewhere wsX0_growElsewhere (gm_rm 6 0 0) G (xw G q) r [.ref (q 0), .int (nI h), .int (nI n)] (fun res u => (∀ k, (hs_room S n h).2 = some k → res = nI 1 ∧ rx (hs_gr (hs_room S n h).1 h (hs_gb (hs_room S n h).1 k) n) u) ∧ ((hs_room S n h).2 = none → res = nI 0 ∧ rx (hs_room S n h).1 u)) 0 0 := by
  refine gm_i.of (cc := cX0_growElsewhere) (nL := 4) (ret := (some .boolean)) (by decide +kernel) rfl (Nat.le_of_ble_eq_true rfl) ?_
  intro p e s m args below meth c ls C0 hz hl
  have hl : lv_has ls 4 [(0, .ref (q 0)), (1, .int (nI h)), (2, .int (nI n))] := hl
  obtain ⟨hsm, hok⟩ := hs_room_ok hI n h
  refine lv_aload_n C0.1.1 C0.1.2.1 dX0_growElsewhere_0 rfl (lv_at hl 0 rfl) ?_
  refine lv_iload_n C0.1.1 C0.1.2.1 dX0_growElsewhere_1 rfl (lv_at hl 2 rfl) ?_
  refine lv_iload_n C0.1.1 C0.1.2.1 dX0_growElsewhere_2 rfl (lv_at hl 1 rfl) ?_
  refine gs_callVi (w := xw G q) (wr := []) C0.1 (k_findRoom l G q r S hS hI n hn h (nI h) (Or.inl ⟨hh, rfl⟩)) (cwV 2 C0.1.2.2.2.2 gX0_growElsewhere_X0_findRoom rfl rfl rfl (by decide +kernel) ⟨Nat.le_of_ble_eq_true rfl, Nat.le_of_ble_eq_true rfl⟩) (ci := 0) rfl rfl rfl (gs_nil hz) rfl hl.1 rfl (Nat.le_of_ble_eq_true rfl) dX0_growElsewhere_3 ⟨Nat.le_of_ble_eq_true rfl, Nat.le_of_ble_eq_true rfl⟩ (fun res u H locs hp hz => ?_)
  replace hz := gs_unnil hz
  obtain ⟨T, eT⟩ : ∃ z, z = (hs_room S n h).1 := ⟨_, rfl⟩
  obtain ⟨o, eo⟩ : ∃ z, z = (hs_room S n h).2 := ⟨_, rfl⟩
  rw [← eT, ← eo] at hp hok
  rw [← eT] at hsm
  rw [← eT, ← eo]
  obtain ⟨hT, hres⟩ := hp
  have hIT := hsm.1
  obtain ⟨huT, hnT⟩ := hsm.2.2 hh hu
  cases o with
  | none =>
    refine gs_eq (y := -1) hres ?_
    refine lv_istore_n (lv' := [(3, .int (-1)), (0, .ref (q 0)), (1, .int (nI h)), (2, .int (nI n))]) C0.1.1 C0.1.2.1 dX0_growElsewhere_6 rfl hl (by decide) rfl (fun ls hl => ?_)
    refine lv_iload_n C0.1.1 C0.1.2.1 dX0_growElsewhere_7 rfl (lv_at hl 0 rfl) ?_
    refine lv_iconst (v := (-1)) C0.1.1 C0.1.2.1 dX0_growElsewhere_8 (by decide) ?_
    refine lv_icmp_ne (tgt := 14) C0.1.1 C0.1.2.1 dX0_growElsewhere_9 (by decide) (fun c1 => ?_) (fun c1 => ?_)
    · skip
      exact absurd rfl c1
    · skip
      refine lv_iconst (v := nI 0) C0.1.1 C0.1.2.1 dX0_growElsewhere_12 (by decide) ?_
      exact gs_retz u C0 hz (by decide) (⟨fun k z => (by cases z), fun _ => ⟨rfl, hT⟩⟩) (Nat.le_of_ble_eq_true rfl) (Nat.le_of_ble_eq_true rfl) dX0_growElsewhere_13
  | some k =>
    obtain ⟨hk1, hk2⟩ := hok k rfl
    have hend := hs_gap_e hIT hk1 hk2
    have hd := hs_gap_d hIT hk1 hk2
    have hbn := hIT.bn hh huT
    obtain ⟨a, ea⟩ : ∃ z, z = hs_gb T k := ⟨_, rfl⟩
    rw [← ea] at hend hd
    have hne : a ≠ hs_b T h := fun z => by have := hd h hh huT; omega
    refine gs_eq (y := nI a) (by rw [hres, ea]; rfl) ?_
    refine lv_istore_n (lv' := [(3, .int (nI a)), (0, .ref (q 0)), (1, .int (nI h)), (2, .int (nI n))]) C0.1.1 C0.1.2.1 dX0_growElsewhere_6 rfl hl (by decide) rfl (fun ls hl => ?_)
    refine lv_iload_n C0.1.1 C0.1.2.1 dX0_growElsewhere_7 rfl (lv_at hl 0 rfl) ?_
    refine lv_iconst (v := (-1)) C0.1.1 C0.1.2.1 dX0_growElsewhere_8 (by decide) ?_
    refine lv_icmp_ne (tgt := 14) C0.1.1 C0.1.2.1 dX0_growElsewhere_9 (by decide) (fun c1 => ?_) (fun c1 => ?_)
    · skip
      refine lv_aload_n C0.1.1 C0.1.2.1 dX0_growElsewhere_14 rfl (lv_at hl 1 rfl) ?_
      refine lv_iload_n C0.1.1 C0.1.2.1 dX0_growElsewhere_15 rfl (lv_at hl 2 rfl) ?_
      refine gs_callVv (w := xw G q) (wr := []) C0.1 (k_leaveRow l G q u (hs_R T) hT.2.2.2.1 hIT.J.len (fun x hx => (hIT.J.2 x hx).1) h hh) (cwV 1 C0.1.2.2.2.2 gX0_growElsewhere_X0_leaveRow rfl rfl rfl (by decide +kernel) ⟨Nat.le_of_ble_eq_true rfl, Nat.le_of_ble_eq_true rfl⟩) (ci := 0) rfl rfl rfl (gs_nil hz) rfl hl.1 rfl (Nat.le_of_ble_eq_true rfl) dX0_growElsewhere_16 ⟨Nat.le_of_ble_eq_true rfl, Nat.le_of_ble_eq_true rfl⟩ (fun r1 H locs hp hz => ?_)
      replace hz := gs_unnil hz
      obtain ⟨w1, e1, hw1⟩ := hp
      refine lv_aload_n C0.1.1 C0.1.2.1 dX0_growElsewhere_19 rfl (lv_at hl 1 rfl) ?_
      refine lv_iload_n C0.1.1 C0.1.2.1 dX0_growElsewhere_20 rfl (lv_at hl 2 rfl) ?_
      refine lv_iload_n C0.1.1 C0.1.2.1 dX0_growElsewhere_21 rfl (lv_at hl 0 rfl) ?_
      refine gs_callVv (w := xw G q) (wr := []) C0.1 (k_moveTo l G q r1 h (hs_b T h) (hs_n T h) a hh (by rw [e1]; exact (hT.1 h hh).trans (xb_2 huT)) (by rw [e1]; exact hT.2.1 h hh) hbn.1 (by omega)) (cwV 2 C0.1.2.2.2.2 gX0_growElsewhere_X0_moveTo rfl rfl rfl (by decide +kernel) ⟨Nat.le_of_ble_eq_true rfl, Nat.le_of_ble_eq_true rfl⟩) (ci := 0) rfl rfl rfl (gs_nil hz) rfl hl.1 rfl (Nat.le_of_ble_eq_true rfl) dX0_growElsewhere_22 ⟨Nat.le_of_ble_eq_true rfl, Nat.le_of_ble_eq_true rfl⟩ (fun r2 H locs hp hz => ?_)
      replace hz := gs_unnil hz
      have e2 := hp
      clear hp
      have hno : ∀ x, x ∈ hg_out (hs_R T) h → x ≠ h := fun x hx => (hg_out_mem.mp hx).2
      refine lv_aload_n C0.1.1 C0.1.2.1 dX0_growElsewhere_25 rfl (lv_at hl 1 rfl) ?_
      refine lv_iload_n C0.1.1 C0.1.2.1 dX0_growElsewhere_26 rfl (lv_at hl 2 rfl) ?_
      have hA : ∀ x ∈ hg_out (hs_R T) h, x < 48 ∧ x_bg r2 x = nI (va_up (hs_b T) h a x) ∧ va_up (hs_b T) h a x ≤ 1024 := by
        intro x hx
        have hx2 := (hIT.2.1 x).mp (hg_out_mem.mp hx).1
        rw [e2, if_neg hne, e1, va_up_ne _ _ (hno x hx)]
        refine ⟨hx2.1, ?_, hIT.b2 hx2.1 hx2.2⟩
        show upd (x_bg u) h (nI a) x = nI (hs_b T x)
        rw [pk_un (hno x hx)]
        exact (hT.1 x hx2.1).trans (xb_2 hx2.2)
      have hB : x_bg r2 h = nI (va_up (hs_b T) h a h) ∧ va_up (hs_b T) h a h ≤ 1024 := by
        rw [e2, if_neg hne, e1, va_up_self]
        refine ⟨?_, by omega⟩
        show upd (x_bg u) h (nI a) h = nI a
        exact pk_us
      have hC : ∀ i j, i < j → j < (hg_out (hs_R T) h).length → va_up (hs_b T) h a (hg_at (hg_out (hs_R T) h) i) ≤ va_up (hs_b T) h a (hg_at (hg_out (hs_R T) h) j) := by
        intro i j hij hj
        rw [va_up_ne _ _ (hno _ (hg_at_mem (by omega))), va_up_ne _ _ (hno _ (hg_at_mem hj))]
        have := hg_ord (hg_I_out (h := h) hIT.1) hij hj
        omega
      refine gs_callVv (w := xw G q) (wr := []) C0.1 (k_enterRow l G q r2 (hg_out (hs_R T) h) (va_up (hs_b T) h a) (by rw [e2, if_neg hne, e1]; exact ⟨rfl, hw1⟩) (hs_out_len hIT hh) hA hC h hh hB) (cwV 1 C0.1.2.2.2.2 gX0_growElsewhere_X0_enterRow rfl rfl rfl (by decide +kernel) ⟨Nat.le_of_ble_eq_true rfl, Nat.le_of_ble_eq_true rfl⟩) (ci := 0) rfl rfl rfl (gs_nil hz) rfl hl.1 rfl (Nat.le_of_ble_eq_true rfl) dX0_growElsewhere_27 ⟨Nat.le_of_ble_eq_true rfl, Nat.le_of_ble_eq_true rfl⟩ (fun r3 H locs hp hz => ?_)
      replace hz := gs_unnil hz
      obtain ⟨w2, e3, hw2⟩ := hp
      refine lv_aload_n C0.1.1 C0.1.2.1 dX0_growElsewhere_30 rfl (lv_at hl 1 rfl) ?_
      refine lv_iload_n C0.1.1 C0.1.2.1 dX0_growElsewhere_31 rfl (lv_at hl 2 rfl) ?_
      refine lv_iload_n C0.1.1 C0.1.2.1 dX0_growElsewhere_32 rfl (lv_at hl 3 rfl) ?_
      refine gs_callVv (w := xw G q) (wr := []) C0.1 (k_setLength l G q r3 h a (hs_n T h) n hh (by rw [e3, e2, if_neg hne]; exact pk_us) (by rw [e3, e2, if_neg hne, e1]; exact hT.2.1 h hh) (by omega) hend) (cwV 2 C0.1.2.2.2.2 gX0_growElsewhere_X0_setLength rfl rfl rfl (by decide +kernel) ⟨Nat.le_of_ble_eq_true rfl, Nat.le_of_ble_eq_true rfl⟩) (ci := 0) rfl rfl rfl (gs_nil hz) rfl hl.1 rfl (Nat.le_of_ble_eq_true rfl) dX0_growElsewhere_33 ⟨Nat.le_of_ble_eq_true rfl, Nat.le_of_ble_eq_true rfl⟩ (fun r4 H locs hp hz => ?_)
      replace hz := gs_unnil hz
      refine lv_iconst (v := nI 1) C0.1.1 C0.1.2.1 dX0_growElsewhere_36 (by decide) ?_
      exact gs_retz r4 C0 hz (by decide) (⟨fun k' z => (by cases z; refine ⟨rfl, ?_⟩; rw [← ea, hp]; exact rx_gr hT hh huT hne (by omega) (fun g hg _ hug => hd g hg hug) e1 e2 e3 hw2), fun z => (by cases z)⟩) (Nat.le_of_ble_eq_true rfl) (Nat.le_of_ble_eq_true rfl) dX0_growElsewhere_37
    · skip
      exact absurd c1 (n0_ne (by omega))
set_option maxHeartbeats 4000000 in
set_option maxRecDepth 100000 in
/-- freeBehind -/
theorem k_freeBehind (l : Launch) (G : gs_G) (q : Nat → Nat) (r : xr) (S : hs_S) (hS : rx S r) (hJ : hs_J S) (k0 : Nat) (hk0 : k0 < (hs_R S).length) : gm_i l yX0_freeBehind wsX0_freeBehind (gm_rm 4 0 0) G (xw G q) r [.ref (q 0), .int (nI (hg_at (hs_R S) k0))] (fun res u => u = r ∧ res = nI (hs_gl S (k0 + 1))) 0 0 := by
  refine gm_i.of (cc := cX0_freeBehind) (nL := 3) (ret := (some .int)) (by decide +kernel) rfl (Nat.le_of_ble_eq_true rfl) ?_
  intro p e s m args below meth c ls C0 hz hl
  have hin : ∀ w ∈ wsX00, w ∈ wsX0_freeBehind := by decide +kernel
  have l_nb : Cond.fieldLink RX0 38 "HandleHeap" "blocks" "I" ∈ wsX0_freeBehind := by decide +kernel
  have l_rw : Cond.fieldLink RX0 35 "HandleHeap" "row" "[I" ∈ wsX0_freeBehind := by decide +kernel
  have hl : lv_has ls 3 [(0, .ref (q 0)), (1, .int (nI (hg_at (hs_R S) k0)))] := hl
  have hlen := hJ.len
  have hat0 := hJ.at hk0
  refine lv_iconst (v := nI 0) C0.1.1 C0.1.2.1 dX0_freeBehind_0 (by decide) ?_
  refine lv_istore_n (lv' := [(2, .int (nI 0)), (0, .ref (q 0)), (1, .int (nI (hg_at (hs_R S) k0)))]) C0.1.1 C0.1.2.1 dX0_freeBehind_1 rfl hl (by decide) rfl (fun ls hl => ?_)
  have hl : lv_has ls 3 [(0, .ref (q 0)), (1, .int (nI (hg_at (hs_R S) k0))), (2, .int (nI 0))] := lv_sub hl [1, 2, 0] rfl
  refine (?loop : ∀ (d k : Nat) (ls : Array Slot) (H : Heap) (locs : List Loc), gs_Z G (xw G q r) _ s H locs → k + d = k0 → lv_has ls 3 [(0, .ref (q 0)), (1, .int (nI (hg_at (hs_R S) k0))), (2, .int (nI k))] → W p l e _ s m args below meth c H locs 0 0 _ (F0 m 2 ls [])) k0 0 ls _ _ hz (Nat.zero_add _) hl
  intro d
  induction d using Nat.strongRecOn with
  | _ d ih =>
    intro k ls H locs hz hd hl
    refine lv_iload_n C0.1.1 C0.1.2.1 dX0_freeBehind_2 rfl (lv_at hl 2 rfl) ?_
    refine lv_aload_n C0.1.1 C0.1.2.1 dX0_freeBehind_3 rfl (lv_at hl 0 rfl) ?_
    refine xg_nb C0 hin hz l_nb dX0_freeBehind_4 ?_
    refine gs_eq (y := nI ((hs_R S).length)) (hS.2.2.2.1.1) ?_
    refine lv_icmp_ge (tgt := 34) C0.1.1 C0.1.2.1 dX0_freeBehind_7 (by decide) (fun c1 => ?_) (fun c1 => ?_)
    · rw [nI_leI (by omega) (by omega)] at c1
      exact absurd c1 (by omega)
    · rw [nI_leI (by omega) (by omega)] at c1
      have hk1 : k < (hs_R S).length := by omega
      have hat := hJ.at hk1
      refine lv_aload_n C0.1.1 C0.1.2.1 dX0_freeBehind_10 rfl (lv_at hl 0 rfl) ?_
      refine xg_rw C0 hin hz l_rw dX0_freeBehind_11 ?_
      refine lv_iload_n C0.1.1 C0.1.2.1 dX0_freeBehind_14 rfl (lv_at hl 2 rfl) ?_
      refine xl_rw C0 hz k (by omega) rfl dX0_freeBehind_15 ?_
      refine gs_eq (y := nI (hg_at (hs_R S) k)) (hS.2.2.2.1.2 _ hk1) ?_
      refine lv_iload_n C0.1.1 C0.1.2.1 dX0_freeBehind_16 rfl (lv_at hl 1 rfl) ?_
      refine lv_icmp_ne (tgt := 28) C0.1.1 C0.1.2.1 dX0_freeBehind_17 (by decide) (fun c2 => ?_) (fun c2 => ?_)
      · rw [nI_eq (by omega) (by omega)] at c2
        have hne : k ≠ k0 := fun e => c2 (by rw [e])
        refine lv_iinc (v := nI (k + 1)) (lv' := [(2, .int (nI (k + 1))), (0, .ref (q 0)), (1, .int (nI (hg_at (hs_R S) k0)))]) C0.1.1 C0.1.2.1 dX0_freeBehind_28 hl (k := 2) rfl (nI_1 k) (by decide) rfl (fun ls hl => ?_)
        refine lv_goto (tgt := 2) C0.1.1 C0.1.2.1 dX0_freeBehind_31 (by decide) ?_
        have hl : lv_has ls 3 [(0, .ref (q 0)), (1, .int (nI (hg_at (hs_R S) k0))), (2, .int (nI (k + 1)))] := lv_sub hl [1, 2, 0] rfl
        exact ih (d - 1) (by omega) (k + 1) ls _ _ hz (by omega) hl
      · rw [nI_eq (by omega) (by omega)] at c2
        obtain rfl : k = k0 := hg_inj hJ.1 hk1 hk0 c2
        refine lv_aload_n C0.1.1 C0.1.2.1 dX0_freeBehind_20 rfl (lv_at hl 0 rfl) ?_
        refine lv_iload_n C0.1.1 C0.1.2.1 dX0_freeBehind_21 rfl (lv_at hl 2 rfl) ?_
        refine lv_iconst (v := nI 1) C0.1.1 C0.1.2.1 dX0_freeBehind_22 (by decide) ?_
        refine lv_iadd C0.1.1 C0.1.2.1 dX0_freeBehind_23 ?_
        refine gs_eq (nI_add k 1) ?_
        refine gs_callVi (w := xw G q) (wr := []) C0.1 (k_gapLength l G q r S hS hJ (k + 1) (by omega)) (cwV 1 C0.1.2.2.2.2 gX0_freeBehind_X0_gapLength rfl rfl rfl (by decide +kernel) ⟨Nat.le_of_ble_eq_true rfl, Nat.le_of_ble_eq_true rfl⟩) (ci := 0) rfl rfl rfl (gs_nil hz) rfl hl.1 rfl (Nat.le_of_ble_eq_true rfl) dX0_freeBehind_24 ⟨Nat.le_of_ble_eq_true rfl, Nat.le_of_ble_eq_true rfl⟩ (fun res u9 H locs hp9 hz => ?_)
        replace hz := gs_unnil hz
        rw [hp9.1] at hz
        refine gs_eq (y := nI (hs_gl S (k + 1))) (hp9.2) ?_
        clear hp9
        exact gs_reti r C0 hz (⟨rfl, rfl⟩) (Nat.le_of_ble_eq_true rfl) (Nat.le_of_ble_eq_true rfl) dX0_freeBehind_27
set_option maxHeartbeats 4000000 in
set_option maxRecDepth 100000 in
/-- leastUnused -/
theorem k_leastUnused (l : Launch) (G : gs_G) (q : Nat → Nat) (r : xr) (S : hs_S) (hS : rx S r) (hI : hs_I S) : gm_i l yX0_leastUnused wsX0_leastUnused (gm_rm 1 0 0) G (xw G q) r [.ref (q 0)] (fun res u => u = r ∧ res = oi (hs_lu (hs_u S) 0 48)) 0 0 := by
  refine gm_i.of (cc := cX0_leastUnused) (nL := 2) (ret := (some .int)) (by decide +kernel) rfl (Nat.le_of_ble_eq_true rfl) ?_
  intro p e s m args below meth c ls C0 hz hl
  have hin : ∀ w ∈ wsX00, w ∈ wsX0_leastUnused := by decide +kernel
  have l_bg : Cond.fieldLink RX0 13 "HandleHeap" "begin" "[I" ∈ wsX0_leastUnused := by decide +kernel
  have hl : lv_has ls 2 [(0, .ref (q 0))] := hl
  refine lv_iconst (v := nI 0) C0.1.1 C0.1.2.1 dX0_leastUnused_0 (by decide) ?_
  refine lv_istore_n (lv' := [(1, .int (nI 0)), (0, .ref (q 0))]) C0.1.1 C0.1.2.1 dX0_leastUnused_1 rfl hl (by decide) rfl (fun ls hl => ?_)
  have hl : lv_has ls 2 [(0, .ref (q 0)), (1, .int (nI 0))] := lv_sub hl [1, 0] rfl
  refine (?loop : ∀ (d k : Nat) (ls : Array Slot) (H : Heap) (locs : List Loc), gs_Z G (xw G q r) _ s H locs → k + d = 48 → hs_lu (hs_u S) 0 48 = hs_lu (hs_u S) k d → lv_has ls 2 [(0, .ref (q 0)), (1, .int (nI k))] → W p l e _ s m args below meth c H locs 0 0 _ (F0 m 2 ls [])) 48 0 ls _ _ hz (Nat.zero_add _) rfl hl
  intro d
  induction d using Nat.strongRecOn with
  | _ d ih =>
    intro k ls H locs hz hd key hl
    refine lv_iload_n C0.1.1 C0.1.2.1 dX0_leastUnused_2 rfl (lv_at hl 1 rfl) ?_
    refine lv_bipush (v := nI 48) C0.1.1 C0.1.2.1 dX0_leastUnused_3 (by decide) ?_
    refine lv_icmp_ge (tgt := 26) C0.1.1 C0.1.2.1 dX0_leastUnused_5 (by decide) (fun c1 => ?_) (fun c1 => ?_)
    · rw [nI_leI (by omega) (by omega)] at c1
      obtain rfl : d = 0 := by omega
      refine lv_iconst (v := (-1)) C0.1.1 C0.1.2.1 dX0_leastUnused_26 (by decide) ?_
      exact gs_reti r C0 hz (⟨rfl, by rw [key]; rfl⟩) (Nat.le_of_ble_eq_true rfl) (Nat.le_of_ble_eq_true rfl) dX0_leastUnused_27
    · rw [nI_leI (by omega) (by omega)] at c1
      obtain ⟨d', rfl⟩ : ∃ d', d = d' + 1 := ⟨d - 1, by omega⟩
      refine lv_aload_n C0.1.1 C0.1.2.1 dX0_leastUnused_8 rfl (lv_at hl 0 rfl) ?_
      refine xg_bg C0 hin hz l_bg dX0_leastUnused_9 ?_
      refine lv_iload_n C0.1.1 C0.1.2.1 dX0_leastUnused_12 rfl (lv_at hl 1 rfl) ?_
      refine xl_bg C0 hz k (by omega) rfl dX0_leastUnused_13 ?_
      refine gs_eq (y := xb (hs_u S k) (hs_b S k)) (hS.1 k (by omega)) ?_
      refine lv_iconst (v := (-1)) C0.1.1 C0.1.2.1 dX0_leastUnused_14 (by decide) ?_
      refine lv_icmp_ne (tgt := 20) C0.1.1 C0.1.2.1 dX0_leastUnused_15 (by decide) (fun c2 => ?_) (fun c2 => ?_)
      · skip
        rw [xb_m1 (hI.b2 (by omega)) (hI.u2 (by omega))] at c2
        refine lv_iinc (v := nI (k + 1)) (lv' := [(1, .int (nI (k + 1))), (0, .ref (q 0))]) C0.1.1 C0.1.2.1 dX0_leastUnused_20 hl (k := 1) rfl (nI_1 k) (by decide) rfl (fun ls hl => ?_)
        refine lv_goto (tgt := 2) C0.1.1 C0.1.2.1 dX0_leastUnused_23 (by decide) ?_
        have hl : lv_has ls 2 [(0, .ref (q 0)), (1, .int (nI (k + 1)))] := lv_sub hl [1, 0] rfl
        exact ih d' (by omega) (k + 1) ls _ _ hz (by omega) (by rw [key, hs_lu, if_neg c2]) hl
      · skip
        rw [xb_m1 (hI.b2 (by omega)) (hI.u2 (by omega))] at c2
        refine lv_iload_n C0.1.1 C0.1.2.1 dX0_leastUnused_18 rfl (lv_at hl 1 rfl) ?_
        exact gs_reti r C0 hz (⟨rfl, by rw [key, hs_lu, if_pos c2]; rfl⟩) (Nat.le_of_ble_eq_true rfl) (Nat.le_of_ble_eq_true rfl) dX0_leastUnused_19
set_option maxHeartbeats 4000000 in
set_option maxRecDepth 100000 in
/-- countHandles -/
theorem k_countHandles (l : Launch) (G : gs_G) (q : Nat → Nat) (r : xr) (S : hs_S) (hS : rx S r) (hI : hs_I S) (v : Nat) (hv : v < 2) : gm_i l yX0_countHandles wsX0_countHandles (gm_rm 1 0 0) G (xw G q) r [.ref (q 0), .int (xb v 0)] (fun res u => u = r ∧ res = nI (hs_cn (hs_u S) v 48)) 0 0 := by
  refine gm_i.of (cc := cX0_countHandles) (nL := 4) (ret := (some .int)) (by decide +kernel) rfl (Nat.le_of_ble_eq_true rfl) ?_
  intro p e s m args below meth c ls C0 hz hl
  have hin : ∀ w ∈ wsX00, w ∈ wsX0_countHandles := by decide +kernel
  have l_bg : Cond.fieldLink RX0 13 "HandleHeap" "begin" "[I" ∈ wsX0_countHandles := by decide +kernel
  have hl : lv_has ls 4 [(0, .ref (q 0)), (1, .int (xb v 0))] := hl
  have hq : ∀ k, k < 48 → (xb (hs_u S k) (hs_b S k) = xb v 0 ↔ hs_u S k = v) := by
    intro k hk
    rcases (show v = 0 ∨ v = 1 by omega) with rfl | rfl
    · exact xb_m1 (hI.b2 hk) (hI.u2 hk)
    · exact xb_m2 (hI.b2 hk) (hI.u2 hk)
  refine lv_iconst (v := nI 0) C0.1.1 C0.1.2.1 dX0_countHandles_0 (by decide) ?_
  refine lv_istore_n (lv' := [(2, .int (nI 0)), (0, .ref (q 0)), (1, .int (xb v 0))]) C0.1.1 C0.1.2.1 dX0_countHandles_1 rfl hl (by decide) rfl (fun ls hl => ?_)
  refine lv_iconst (v := nI 0) C0.1.1 C0.1.2.1 dX0_countHandles_2 (by decide) ?_
  refine lv_istore_n (lv' := [(3, .int (nI 0)), (2, .int (nI 0)), (0, .ref (q 0)), (1, .int (xb v 0))]) C0.1.1 C0.1.2.1 dX0_countHandles_3 rfl hl (by decide) rfl (fun ls hl => ?_)
  have hl : lv_has ls 4 [(0, .ref (q 0)), (1, .int (xb v 0)), (2, .int (nI 0)), (3, .int (nI 0))] := lv_sub hl [2, 3, 1, 0] rfl
  refine (?loop : ∀ (d k : Nat) (ls : Array Slot) (H : Heap) (locs : List Loc), gs_Z G (xw G q r) _ s H locs → k + d = 48 → lv_has ls 4 [(0, .ref (q 0)), (1, .int (xb v 0)), (2, .int (nI (hs_cn (hs_u S) v k))), (3, .int (nI k))] → W p l e _ s m args below meth c H locs 0 0 _ (F0 m 4 ls [])) 48 0 ls _ _ hz (Nat.zero_add _) hl
  intro d
  induction d using Nat.strongRecOn with
  | _ d ih =>
    intro k ls H locs hz hd hl
    refine lv_iload_n C0.1.1 C0.1.2.1 dX0_countHandles_4 rfl (lv_at hl 3 rfl) ?_
    refine lv_bipush (v := nI 48) C0.1.1 C0.1.2.1 dX0_countHandles_5 (by decide) ?_
    refine lv_icmp_ge (tgt := 29) C0.1.1 C0.1.2.1 dX0_countHandles_7 (by decide) (fun c1 => ?_) (fun c1 => ?_)
    · rw [nI_leI (by omega) (by omega)] at c1
      obtain rfl : k = 48 := by omega
      refine lv_iload_n C0.1.1 C0.1.2.1 dX0_countHandles_29 rfl (lv_at hl 2 rfl) ?_
      exact gs_reti r C0 hz (⟨rfl, rfl⟩) (Nat.le_of_ble_eq_true rfl) (Nat.le_of_ble_eq_true rfl) dX0_countHandles_30
    · rw [nI_leI (by omega) (by omega)] at c1
      refine lv_aload_n C0.1.1 C0.1.2.1 dX0_countHandles_10 rfl (lv_at hl 0 rfl) ?_
      refine xg_bg C0 hin hz l_bg dX0_countHandles_11 ?_
      refine lv_iload_n C0.1.1 C0.1.2.1 dX0_countHandles_14 rfl (lv_at hl 3 rfl) ?_
      refine xl_bg C0 hz k (by omega) rfl dX0_countHandles_15 ?_
      refine gs_eq (y := xb (hs_u S k) (hs_b S k)) (hS.1 k (by omega)) ?_
      refine lv_iload_n C0.1.1 C0.1.2.1 dX0_countHandles_16 rfl (lv_at hl 1 rfl) ?_
      refine lv_icmp_ne (tgt := 23) C0.1.1 C0.1.2.1 dX0_countHandles_17 (by decide) (fun c2 => ?_) (fun c2 => ?_)
      · skip
        rw [hq k (by omega)] at c2
        have hc : hs_cn (hs_u S) v k = hs_cn (hs_u S) v (k + 1) := by rw [hs_cn, if_neg c2]
        rw [hc] at hl
        refine lv_iinc (v := nI (k + 1)) (lv' := [(3, .int (nI (k + 1))), (0, .ref (q 0)), (1, .int (xb v 0)), (2, .int (nI (hs_cn (hs_u S) v (k + 1))))]) C0.1.1 C0.1.2.1 dX0_countHandles_23 hl (k := 3) rfl (nI_1 k) (by decide) rfl (fun ls hl => ?_)
        refine lv_goto (tgt := 4) C0.1.1 C0.1.2.1 dX0_countHandles_26 (by decide) ?_
        have hl : lv_has ls 4 [(0, .ref (q 0)), (1, .int (xb v 0)), (2, .int (nI (hs_cn (hs_u S) v (k + 1)))), (3, .int (nI (k + 1)))] := lv_sub hl [1, 2, 3, 0] rfl
        exact ih (d - 1) (by omega) (k + 1) ls _ _ hz (by omega) hl
      · skip
        rw [hq k (by omega)] at c2
        have hc : hs_cn (hs_u S) v k + 1 = hs_cn (hs_u S) v (k + 1) := by rw [hs_cn, if_pos c2]
        refine lv_iinc (v := nI ((hs_cn (hs_u S) v k) + 1)) (lv' := [(2, .int (nI ((hs_cn (hs_u S) v k) + 1))), (0, .ref (q 0)), (1, .int (xb v 0)), (3, .int (nI k))]) C0.1.1 C0.1.2.1 dX0_countHandles_20 hl (k := 2) rfl (nI_1 (hs_cn (hs_u S) v k)) (by decide) rfl (fun ls hl => ?_)
        refine lv_iinc (v := nI (k + 1)) (lv' := [(3, .int (nI (k + 1))), (2, .int (nI ((hs_cn (hs_u S) v k) + 1))), (0, .ref (q 0)), (1, .int (xb v 0))]) C0.1.1 C0.1.2.1 dX0_countHandles_23 hl (k := 3) rfl (nI_1 k) (by decide) rfl (fun ls hl => ?_)
        refine lv_goto (tgt := 4) C0.1.1 C0.1.2.1 dX0_countHandles_26 (by decide) ?_
        rw [hc] at hl
        have hl : lv_has ls 4 [(0, .ref (q 0)), (1, .int (xb v 0)), (2, .int (nI (hs_cn (hs_u S) v (k + 1)))), (3, .int (nI (k + 1)))] := lv_sub hl [2, 3, 1, 0] rfl
        exact ih (d - 1) (by omega) (k + 1) ls _ _ hz (by omega) hl
