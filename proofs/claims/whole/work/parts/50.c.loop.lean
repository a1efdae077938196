theorem xz_W_in : ∀ w ∈ xz_W, w ∈ lw_tbl := by decide +kernel
theorem xz_s_in : ∀ q ∈ xz_s, Cond.stringRef RX0 q.1 q.2 ∈ lw_tbl := by decide +kernel
theorem xz_s_ex : ∀ q ∈ xz_s, Cond.exactly (.string RX0 q.1) "java/lang/String" ∈ flatC (Jvm.Cond.and given_1 narrow_1) := by decide +kernel
/-! THE CLAIM OUT OF ONE WALK OF THE LAW'S BODY. Your part is whole_start (and what it stands on); all else here is the same for every law, but numbers. -/
def R_law : String := "HandleHeapLaw"
def lw_P (b : Addr) (xs : List Int32) (args : Array Value) (s : State) : Prop := args = #[.ref b] ∧ s.IntsAt b xs ∧ xs.length ≤ 2048 ∧ (Jvm.Cond.and given_1 narrow_1).before args s = true
def lw_Q (_ : Array Value) (s : State) (o : Outcome) (t : State) : Prop := o = .returned (some (.int 1)) ∧ Framed s o t [] 601024 7293034
def lw_Z (below : List Frame) (a : Array Value) (s : State) : State → Prop := fun t => ∃ o, t.status = .running ∧ Ended t below o ∧ lw_Q a s o t
/-- the law's own end, with 1 on the stack, nothing written that was there before, its room as the claim has it -/
theorem lw_ret {p : Program} {l : Launch} {e : Env} {s : State} {m : MethodId} {below : List Frame} {meth : Method} {c : Code} {b : Nat} (hx : p.tables.exec = Jvm.exec) (hb : c.code = code) (hr : meth.sig.returnType = ret) (hlocks : meth.locks = false) {pc : Nat} {H : Heap} {ls : Array Slot} (hdg : decode code pc = .ok (.ireturn, 1)) : W p l e room_1 s m #[Value.ref b] below meth c H [] 601024 7293034 (lw_Z below #[Value.ref b] s) (F0 m pc ls [.int 1]) := by
  intro T hT X
  obtain ⟨fs, hret, hrun, hended, hW, hframe⟩ := X.leave (v := some (.int 1)) (hlocks := hlocks) (fun h => by rw [hr] at h; cases h)
  have hmeth' : T.vm.method? m = some meth := X.method'
  refine ⟨T.setFrames fs, ?_, .returned (some (.int 1)), hrun, hended, rfl, ⟨_, rfl⟩, hW, hframe⟩
  jvm_step X.here [X.here.top, hx, hb, hdg, hmeth', hr, ret, narrow_b1]
  (try refine ⟨rfl, ?_⟩); (try refine ⟨rfl, ?_⟩)
  first | (intro acts; rw [hret _ acts rfl rfl rfl]) | rw [hret _ _ rfl rfl rfl]
  exact Steps.refl _
/-- what holds at the law's entry: the machine, the code, the tables' words (any of lw_tbl by 'hts w (by decide +kernel)'), the script of L ints xs at the cell b, what the Statement gives of the start (any of its parts by flat_of_before) -/
def lw_At (p : Program) (s : State) (m : MethodId) (meth : Method) (c : Code) (b L : Nat) (xs : Nat → Int32) : Prop :=
  p.tables.exec = Jvm.exec ∧ c.code = code ∧ meth.sig.returnType = ret ∧ c.maxLocals = 7 ∧ s.vm.findClass R_law = some m.cls ∧ (∀ w ∈ lw_tbl, w.before #[Value.ref b] s = true) ∧ va_X b L xs s s.heap ∧ b < s.heap.size ∧ meth.locks = false ∧ (Jvm.Cond.and given_1 narrow_1).before #[Value.ref b] s = true
/-- the loop's end: the law answers 1 -/
theorem law_exit {p : Program} {l : Launch} {e : Env} {s : State} {m : MethodId} {below : List Frame} {meth : Method} {c : Code} {b L : Nat} {xs : Nat → Int32} (hA : lw_At p s m meth c b L xs) (C0 : la p s m c b L xs) (hL : L ≤ 2048) {G : gs_G} {q qy : Nat → Nat} {qo i : Nat} {r : xr × (Nat → Int64)} {y : yr} {H : Heap} {locs : List Loc} {ls : Array Slot} (hi : i ≤ 2052) (h4 : L < i + 4) (hz : laZ G q qy qo r y s H locs) (hl : laL ls b q qy qo i) : W p l e room_1 s m #[Value.ref b] below meth c H locs (17 + i) (50773 + 6 * i) (lw_Z below #[Value.ref b] s) (F0 m 23 ls []) := by
  refine lv_iload C0.1.1 C0.1.2.1 dL_law_23 (lv_at hl 4 rfl) ?_
  refine lv_aload_n C0.1.1 C0.1.2.1 dL_law_25 rfl (lv_at hl 0 rfl) ?_
  refine va_slen C0.1.1 C0.1.2.1 C0.2.1 C0.2.2.1 (Nat.not_le.mpr C0.2.2.1) hz.2.2.2.1 dL_law_26 ?_
  refine gs_eq (y := nI L) rfl ?_
  refine lv_iconst (v := nI 4) C0.1.1 C0.1.2.1 dL_law_27 (by decide) ?_
  refine lv_isub C0.1.1 C0.1.2.1 dL_law_28 ?_
  refine lv_icmp_gt (tgt := 1075) C0.1.1 C0.1.2.1 dL_law_29 (by decide) (fun _ => ?_) (fun c9 => absurd (lt_ex hL hi h4) c9)
  refine lv_iconst (v := 1) C0.1.1 C0.1.2.1 dL_law_1075 (by decide) ?_
  refine va_forget (fun x hx => hz.2.2.2.1.2.2 x hx) ?_
  refine W.widen (k := 601024) (n := 7293034) (by omega) (by omega) ?_
  exact lw_ret hA.1 hA.2.1 hA.2.2.1 hA.2.2.2.2.2.2.2.2.1 dL_law_1076
set_option maxHeartbeats 4000000 in
set_option maxRecDepth 100000 in
/-- at the law's entry, once its objects are made: the loop -/
theorem law_loop {p : Program} {l : Launch} {e : Env} {s : State} {m : MethodId} {below : List Frame} {meth : Method} {c : Code} {b L : Nat} {xs : Nat → Int32} (hst : l.stackTraces = false) (hA : lw_At p s m meth c b L xs) (C0 : la p s m c b L xs) (hL : L ≤ 2048) (G : gs_G) (q qy : Nat → Nat) (qo : Nat) : ∀ (d i : Nat) (S : hs_S) (r : xr × (Nat → Int64)) (y : yr) (H : Heap) (locs : List Loc) (ls : Array Slot), L < i + d → i ≤ 2052 → rx S r.1 → ry S y → hs_I S → laZ G q qy qo r y s H locs → laL ls b q qy qo i → W p l e room_1 s m #[Value.ref b] below meth c H locs (17 + i) (50773 + 6 * i) (lw_Z below #[Value.ref b] s) (F0 m 23 ls []) := by
  intro d
  induction d with
  | zero =>
    intro i S r y H locs ls hd hi hS hY hI hz hl
    exact law_exit hA C0 hL hi (by omega) hz hl
  | succ d ih =>
    intro i S r y H locs ls hd hi hS hY hI hz hl
    by_cases q4 : i + 4 ≤ L
    · have next : laK p l e s m below meth c b G q qy qo i (17 + i) (50773 + 6 * i) (lw_Z below #[Value.ref b] s) := by
        intro S' r' y' H' locs' ls' h1 h2 h3 hz hl
        refine lv_iinc (v := nI (i + 4)) (lv' := [(4, .int (nI (i + 4))), (0, .ref b), (1, .ref (q 0)), (2, .ref (qy 0)), (3, .ref qo)]) C0.1.1 C0.1.2.1 dL_law_1069 hl (k := 4) rfl (nI_add i 4) (by decide) rfl (fun ls hl => ?_)
        refine lv_goto (tgt := 23) C0.1.1 C0.1.2.1 dL_law_1072 (by decide) ?_
        refine W.widen (k := 17 + (i + 4)) (n := 50773 + 6 * (i + 4)) (by omega) (by omega) ?_
        exact ih (i + 4) S' r' y' H' locs' ls (by omega) (by omega) h1 h2 h3 hz (lv_sub hl [1, 2, 3, 4, 0] rfl)
      refine lv_iload C0.1.1 C0.1.2.1 dL_law_23 (lv_at hl 4 rfl) ?_
      refine lv_aload_n C0.1.1 C0.1.2.1 dL_law_25 rfl (lv_at hl 0 rfl) ?_
      refine va_slen C0.1.1 C0.1.2.1 C0.2.1 C0.2.2.1 (Nat.not_le.mpr C0.2.2.1) hz.2.2.2.1 dL_law_26 ?_
      refine gs_eq (y := nI L) rfl ?_
      refine lv_iconst (v := nI 4) C0.1.1 C0.1.2.1 dL_law_27 (by decide) ?_
      refine lv_isub C0.1.1 C0.1.2.1 dL_law_28 ?_
      refine lv_icmp_gt (tgt := 1075) C0.1.1 C0.1.2.1 dL_law_29 (by decide) (fun c9 => absurd c9 (lt_no hL q4)) (fun _ => ?_)
      refine lv_aload_n C0.1.1 C0.1.2.1 dL_law_32 rfl (lv_at hl 0 rfl) ?_
      refine lv_iload C0.1.1 C0.1.2.1 dL_law_33 (lv_at hl 4 rfl) ?_
      refine gl_ld C0 hz (by omega) hL dL_law_35 ?_
      refine lv_bipush (v := nI 15) C0.1.1 C0.1.2.1 dL_law_36 (by decide) ?_
      refine lv_iand C0.1.1 C0.1.2.1 dL_law_38 ?_
      obtain ⟨j, hj, ej⟩ := pk_andE (xs i) (m := nI 15) 4 (by decide)
      refine gs_eq (y := nI j) ej ?_
      have hj : j < 16 := hj
      rcases (show j = 0 ∨ j = 1 ∨ j = 2 ∨ j = 3 ∨ j = 4 ∨ j = 5 ∨ j = 6 ∨ j = 7 ∨ j = 8 ∨ j = 9 ∨ j = 10 ∨ j = 11 ∨ j = 12 ∨ j = 13 ∨ j = 14 ∨ j = 15 by omega) with rfl | rfl | rfl | rfl | rfl | rfl | rfl | rfl | rfl | rfl | rfl | rfl | rfl | rfl | rfl | rfl
      · refine lv_tableIn (x := nI 0) (off := 73) (tgt := 112) C0.1.1 C0.1.2.1 dL_law_39 (by decide) (by decide) (by decide) (by decide) ?_
        exact a_ask hst C0 hL G q qy qo S r y hS hY hI i (by omega) _ _ (by omega) (by omega) _ _ ls hz hl next
      · refine lv_tableIn (x := nI 1) (off := 157) (tgt := 196) C0.1.1 C0.1.2.1 dL_law_39 (by decide) (by decide) (by decide) (by decide) ?_
        exact a_drop hst C0 hL G q qy qo S r y hS hY hI i (by omega) _ _ (by omega) (by omega) _ _ ls hz hl next
      · refine lv_tableIn (x := nI 2) (off := 213) (tgt := 252) C0.1.1 C0.1.2.1 dL_law_39 (by decide) (by decide) (by decide) (by decide) ?_
        exact a_resize hst C0 hL G q qy qo S r y hS hY hI i (by omega) _ _ (by omega) (by omega) _ _ ls hz hl next
      · refine lv_tableIn (x := nI 3) (off := 288) (tgt := 327) C0.1.1 C0.1.2.1 dL_law_39 (by decide) (by decide) (by decide) (by decide) ?_
        exact a_lock hst C0 hL G q qy qo S r y hS hY hI i (by omega) _ _ (by omega) (by omega) _ _ ls hz hl next
      · refine lv_tableIn (x := nI 4) (off := 379) (tgt := 418) C0.1.1 C0.1.2.1 dL_law_39 (by decide) (by decide) (by decide) (by decide) ?_
        exact a_losable hst C0 hL G q qy qo S r y hS hY hI i (by omega) _ _ (by omega) (by omega) _ _ ls hz hl next
      · refine lv_tableIn (x := nI 5) (off := 470) (tgt := 509) C0.1.1 C0.1.2.1 dL_law_39 (by decide) (by decide) (by decide) (by decide) ?_
        exact a_lose hst C0 hL G q qy qo S r y hS hY hI i (by omega) _ _ (by omega) (by omega) _ _ ls hz hl next
      · refine lv_tableIn (x := nI 6) (off := 533) (tgt := 572) C0.1.1 C0.1.2.1 dL_law_39 (by decide) (by decide) (by decide) (by decide) ?_
        exact a_lift hst C0 hL G q qy qo S r y hS hY hI i (by omega) _ _ (by omega) (by omega) _ _ ls hz hl next
      · refine lv_tableIn (x := nI 7) (off := 589) (tgt := 628) C0.1.1 C0.1.2.1 dL_law_39 (by decide) (by decide) (by decide) (by decide) ?_
        exact a_slide hst C0 hL G q qy qo S r y hS hY hI i (by omega) _ _ (by omega) (by omega) _ _ ls hz hl next
      · refine lv_tableIn (x := nI 8) (off := 602) (tgt := 641) C0.1.1 C0.1.2.1 dL_law_39 (by decide) (by decide) (by decide) (by decide) ?_
        exact a_clear hst C0 hL G q qy qo S r y hS hY hI i (by omega) _ _ (by omega) (by omega) _ _ ls hz hl next
      · refine lv_tableIn (x := nI 9) (off := 658) (tgt := 697) C0.1.1 C0.1.2.1 dL_law_39 (by decide) (by decide) (by decide) (by decide) ?_
        exact a_where hst C0 hL G q qy qo S r y hS hY hI i (by omega) _ _ (by omega) (by omega) _ _ ls hz hl next
      · refine lv_tableIn (x := nI 10) (off := 714) (tgt := 753) C0.1.1 C0.1.2.1 dL_law_39 (by decide) (by decide) (by decide) (by decide) ?_
        exact a_size hst C0 hL G q qy qo S r y hS hY hI i (by omega) _ _ (by omega) (by omega) _ _ ls hz hl next
      · refine lv_tableIn (x := nI 11) (off := 770) (tgt := 809) C0.1.1 C0.1.2.1 dL_law_39 (by decide) (by decide) (by decide) (by decide) ?_
        exact a_put hst C0 hL G q qy qo S r y hS hY hI i (by omega) _ _ (by omega) (by omega) _ _ ls hz hl next
      · refine lv_tableIn (x := nI 12) (off := 850) (tgt := 889) C0.1.1 C0.1.2.1 dL_law_39 (by decide) (by decide) (by decide) (by decide) ?_
        exact a_get hst C0 hL G q qy qo S r y hS hY hI i (by omega) _ _ (by omega) (by omega) _ _ ls hz hl next
      · refine lv_tableIn (x := nI 13) (off := 918) (tgt := 957) C0.1.1 C0.1.2.1 dL_law_39 (by decide) (by decide) (by decide) (by decide) ?_
        exact a_owner hst C0 hL G q qy qo S r y hS hY hI i (by omega) _ _ (by omega) (by omega) _ _ ls hz hl next
      · refine lv_tableIn (x := nI 14) (off := 974) (tgt := 1013) C0.1.1 C0.1.2.1 dL_law_39 (by decide) (by decide) (by decide) (by decide) ?_
        exact a_told hst C0 hL G q qy qo S r y hS hY hI i (by omega) _ _ (by omega) (by omega) _ _ ls hz hl next
      · refine lv_tableOut (x := nI 15) (tgt := 1069) C0.1.1 C0.1.2.1 dL_law_39 (by decide) (by decide) ?_
        refine W.widen (k := 17 + i + 4) (n := 50773 + 6 * i + 24) (Nat.le_add_right _ 4) (Nat.le_add_right _ 24) ?_
        exact next S r y _ _ ls hS hY hI hz hl
    · exact law_exit hA C0 hL hi (by omega) hz hl
