set_option maxHeartbeats 4000000 in
set_option maxRecDepth 100000 in
/-- what throwing needs, at the start -/
theorem xz_start {s : State} {b : Nat} (hts : ∀ w ∈ lw_tbl, w.before #[Value.ref b] s = true) (hgv : (Jvm.Cond.and given_1 narrow_1).before #[Value.ref b] s = true) : xz (fun q : Nat => s.heap.size ≤ q) s s.heap ∧ xn s := by
  have hs := flat_of_before _ hgv
  refine ⟨⟨fun w hw => ?_, fun q hq => ?_, ?_, ?_⟩, ?_, ?_, ?_⟩
  · refine va_Nw.of ?_ (hts w (xz_W_in w hw))
    simp only [xz_W, List.mem_cons, List.not_mem_nil, or_false] at hw
    rcases hw with rfl | rfl | rfl | rfl | rfl | rfl <;> rfl
  · obtain ⟨a, c, cA, kA, q1, -⟩ := Cond.exactly_spec (args := #[Value.ref b]) (first := s) (o := none) (s := s) (idx := []) (t := .string RX0 q.1) (cls := "java/lang/String") (hs _ (xz_s_ex q hq))
    exact ⟨a, vk_R.of (hts _ (xz_s_in q hq)) q1⟩
  · exact vx_Zqof (hts (.laysStatic Bundle.tN "UNASSIGNED_STACK" Bundle.steD) (by decide +kernel)) (hts (.initialized Bundle.tN) (by decide +kernel)) (hs (.isRef (.static Bundle.tN "UNASSIGNED_STACK" Bundle.steD)) (by decide +kernel)) (fun a h => Nat.not_le.mpr h)
  · exact vx_Zqof (hts (.laysStatic Bundle.tN "SUPPRESSED_SENTINEL" Bundle.listD) (by decide +kernel)) (hts (.initialized Bundle.tN) (by decide +kernel)) (hs (.isRef (.static Bundle.tN "SUPPRESSED_SENTINEL" Bundle.listD)) (by decide +kernel)) (fun a h => Nat.not_le.mpr h)
  · exact va_Nc.of (hs (.not (.castable xIS xIA)) (by decide +kernel))
  · exact va_Nc.of (hs (.not (.castable xIO xIA)) (by decide +kernel))
  · exact va_Nc.of (hs (.not (.castable xIO xIS)) (by decide +kernel))
/-- an array class of the tables -/
theorem ar_start {s : State} {args : Array Value} {ty : FieldType} (h : (Cond.arrayClass ty).before args s = true) (hso : ty = .int ∨ ty = .boolean ∨ ty = .long) : ∃ cA : ClassId, ArrOfT s cA ty ∧ va_RA s cA ty := by
  obtain ⟨cA, kA, comp, h1, h2, h3⟩ := Cond.arrayClass_spec h
  refine ⟨cA, fun n z => ⟨fun k h => (by cases h), kA, h2, comp, h3⟩, ?_⟩
  rcases hso with rfl | rfl | rfl
  · exact h1
  · exact h1
  · exact h1
set_option maxHeartbeats 4000000 in
set_option maxRecDepth 100000 in
/-- YOUR PART: from the entry, for every script of at most 2048 ints, the law comes to its end with true -/
theorem whole_start {p : Program} {e : Env} {s : State} {m : MethodId} {below : List Frame} {meth : Method} {c : Code} (l : Launch) (hst : l.stackTraces = false) {b L : Nat} {xs : Nat → Int32} (hL : L ≤ 2048) (C0 : lw_At p s m meth c b L xs) : W p l e room_1 s m #[Value.ref b] below meth c s.heap [] 0 0 (lw_Z below #[Value.ref b] s) (entryFrame m ([Value.ref b] : List Value).toArray 7) := by
  obtain ⟨hx, hb, hr, hml, hown, hts, hX, hbl, hlocks, hgv⟩ := id C0
  obtain ⟨hxz, hxn⟩ := xz_start hts hgv
  have hla : la p s m c b L xs := ⟨⟨hx, hb, hml, hown, fun w h => hts w (wl_law w h)⟩, hX, hbl, hxz, hxn⟩
  obtain ⟨c0, iS0, hKn0⟩ := u_known (C := RX0) (T := TX0) (N := 10) (n := 10) hts wl_wsX00 (hts (.instantiable RX0 10) (by decide +kernel))
  obtain ⟨c1, iS1, hKn1⟩ := u_known (C := RX1) (T := TX1) (N := 10) (n := 10) hts wl_wsX10 (hts (.instantiable RX1 10) (by decide +kernel))
  obtain ⟨cI, hcI⟩ := ar_start (hts (.arrayClass .int) (by decide +kernel)) (Or.inl rfl)
  obtain ⟨cZ, hcZ⟩ := ar_start (hts (.arrayClass .boolean) (by decide +kernel)) (Or.inr (Or.inl rfl))
  obtain ⟨cJ, hcJ⟩ := ar_start (hts (.arrayClass .long) (by decide +kernel)) (Or.inr (Or.inr rfl))
  obtain ⟨dC, dI, hKc⟩ : ∃ (dC : Nat → ClassId) (dI : Nat → Nat → Nat), ∀ (k : Nat) (q : vw_C), xcl[k]? = some q → u_Kn s q.1 q.2.1 q.2.2 (dC k) (dI k) := by
    refine ⟨fun k => if k = 0 then c0 else c1, fun k => if k = 0 then iS0 else iS1, ?_⟩
    intro k q hq
    match k, hq with
    | 0, hq => cases hq; exact hKn0
    | 1, hq => cases hq; exact hKn1
    | k + 2, hq => simp [xcl] at hq
  obtain ⟨G, eG⟩ : ∃ G : gs_G, G = ((dC, dI), cI, cZ, cJ) := ⟨_, rfl⟩
  have hK : va_K G.1 xcl (gs_t G) s := by
    rw [eG]
    refine ⟨hKc, fun k q h => ?_⟩
    match k, h with
    | 0, h => cases h; exact hcI
    | 1, h => cases h; exact hcZ
    | 2, h => cases h; exact hcJ
    | k + 3, h => simp [gs_t] at h
  have hz : gs_Z G [] (fun q : Nat => s.heap.size ≤ q) s s.heap [] := ⟨hK, fun k q h => by simp at h, ⟨fun i j p q h => by simp at h, fun k q h => by simp at h⟩, va_S.rf, fun _ h => h⟩
  have hl := lv_entry ([.ref b]) (n := 7) (Nat.le_of_ble_eq_true rfl)
  rw [lg_entry_eq]
  generalize (lg_sl ([.ref b]) ++ List.replicate (7 - (lg_sl ([.ref b])).length) Slot.unset).toArray = ls at hl ⊢
  have hl : lv_has ls 7 [(0, .ref b)] := hl
  have C1 := hla.1
  refine gs_new (ci := 0) (fs := [.null, .null, .null, .null, .null, .null, .null, .int 0, .int 0, .int 0]) (C := RX0) (T := TX0) (N := 10) C1.1 C1.2.1 hts wl_wsX00 tyX0 tyX0_ok hown (hts (.classLink RL 8 RX0) (by decide +kernel)) (hts (.instantiable RX0 10) (by decide +kernel)) (hts (.initialized RX0) (by decide +kernel)) hz rfl (fun j hj => by rcases (show j = 0 ∨ j = 1 ∨ j = 2 ∨ j = 3 ∨ j = 4 ∨ j = 5 ∨ j = 6 ∨ j = 7 ∨ j = 8 ∨ j = 9 by omega) with rfl | rfl | rfl | rfl | rfl | rfl | rfl | rfl | rfl | rfl <;> rfl) (Nat.le_of_ble_eq_true rfl) (Nat.le_of_ble_eq_true rfl) dL_law_0 (fun h0 H hz => ?_)
  have hz : gs_Z G ([(h0, .inr (0, [.null, .null, .null, .null, .null, .null, .null, .int 0, .int 0, .int 0]))] ++ []) (fun q : Nat => s.heap.size ≤ q) s H [] := hz
  refine lv_dup C1.1 C1.2.1 dL_law_3 rfl ?_
  refine gs_callI (w := fun w : va_W => w) (wr := []) (As := []) C1 (k_init l G h0) (cwI 0 C1.2.2.2.2 gL_law_X0_init rfl rfl rfl (hts (.initialized RX0) (by decide +kernel)) (hts (.methodLink RL 64 yX0_init) (by decide +kernel)) (hts (.instanceMethod yX0_init) (by decide +kernel)) rfl (by decide +kernel) ⟨Nat.le_of_ble_eq_true rfl, Nat.le_of_ble_eq_true rfl⟩) hz rfl hl.1 rfl (Nat.le_of_ble_eq_true rfl) dL_law_4 ⟨Nat.le_of_ble_eq_true rfl, Nat.le_of_ble_eq_true rfl⟩ (fun u H locs hp hz => ?_)
  obtain ⟨q, r, eq0, rfl, hS⟩ := hp
  rw [← eq0]
  replace hz := gs_unnil hz
  refine lv_astore_n (lv' := [(1, .ref (q 0)), (0, .ref b)]) C1.1 C1.2.1 dL_law_7 rfl hl (by decide) rfl (fun ls hl => ?_)
  refine gs_new (ci := 1) (fs := [.int 0, .null, .null, .null, .null, .null, .null, .null, .int 0, .int 0]) (C := RX1) (T := TX1) (N := 10) C1.1 C1.2.1 hts wl_wsX10 tyX1 tyX1_ok hown (hts (.classLink RL 65 RX1) (by decide +kernel)) (hts (.instantiable RX1 10) (by decide +kernel)) (hts (.initialized RX1) (by decide +kernel)) hz rfl (fun j hj => by rcases (show j = 0 ∨ j = 1 ∨ j = 2 ∨ j = 3 ∨ j = 4 ∨ j = 5 ∨ j = 6 ∨ j = 7 ∨ j = 8 ∨ j = 9 by omega) with rfl | rfl | rfl | rfl | rfl | rfl | rfl | rfl | rfl | rfl <;> rfl) (Nat.le_of_ble_eq_true rfl) (Nat.le_of_ble_eq_true rfl) dL_law_8 (fun h0 H hz => ?_)
  replace hz := gs_swap hz
  refine lv_dup C1.1 C1.2.1 dL_law_11 rfl ?_
  refine gs_callI (w := fun w : va_W => w) (wr := xw G q r) (As := []) C1 (m_init l G h0) (cwI 0 C1.2.2.2.2 gL_law_X1_init rfl rfl rfl (hts (.initialized RX1) (by decide +kernel)) (hts (.methodLink RL 67 yX1_init) (by decide +kernel)) (hts (.instanceMethod yX1_init) (by decide +kernel)) rfl (by decide +kernel) ⟨Nat.le_of_ble_eq_true rfl, Nat.le_of_ble_eq_true rfl⟩) hz rfl hl.1 rfl (Nat.le_of_ble_eq_true rfl) dL_law_12 ⟨Nat.le_of_ble_eq_true rfl, Nat.le_of_ble_eq_true rfl⟩ (fun u H locs hp hz => ?_)
  obtain ⟨qy, y, eq1, rfl, hY⟩ := hp
  rw [← eq1]
  refine lv_astore_n (lv' := [(2, .ref (qy 0)), (1, .ref (q 0)), (0, .ref b)]) C1.1 C1.2.1 dL_law_15 rfl hl (by decide) rfl (fun ls hl => ?_)
  refine lv_iconst (v := nI 1) C1.1 C1.2.1 dL_law_16 (by decide) ?_
  refine gs_newa (atype := .long) (ty := .long) (N' := 1) (a0 := (1, .inr (.inl (fun _ => 0)))) C1.1 C1.2.1 rfl (hts (.arrayClass .long) (by decide +kernel)) hz 2 rfl (Or.inr (Or.inr rfl)) (fun _ => rfl) (nI_pos (by decide)) (nI_clamp (by decide)) (Nat.le_of_ble_eq_true rfl) (Nat.le_of_ble_eq_true rfl) (Nat.le_of_ble_eq_true rfl) dL_law_17 (fun qo H hz => ?_)
  have hz : gs_Z G (hw G q qo (r, fun _ => 0) ++ yw G qy y) (fun q : Nat => s.heap.size ≤ q) s H locs := by
    rw [List.append_assoc] at hz
    exact gs_swap hz
  refine lv_astore_n (lv' := [(3, .ref qo), (2, .ref (qy 0)), (1, .ref (q 0)), (0, .ref b)]) C1.1 C1.2.1 dL_law_19 rfl hl (by decide) rfl (fun ls hl => ?_)
  refine lv_iconst (v := nI 0) C1.1 C1.2.1 dL_law_20 (by decide) ?_
  refine lv_istore (lv' := [(4, .int (nI 0)), (3, .ref qo), (2, .ref (qy 0)), (1, .ref (q 0)), (0, .ref b)]) C1.1 C1.2.1 dL_law_21 hl (by decide) rfl (fun ls hl => ?_)
  refine W.widen (k := 17 + 0) (n := 50773 + 6 * 0) (Nat.le_of_ble_eq_true rfl) (Nat.le_of_ble_eq_true rfl) ?_
  exact law_loop hst C0 hla hL G q qy qo (L + 1) 0 hs_0 (r, fun _ => 0) y _ _ ls (by omega) (by omega) hS hY hs_0_I hz (lv_sub hl [4, 3, 2, 1, 0] rfl)
