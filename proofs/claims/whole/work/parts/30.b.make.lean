/-! MAKING: new arrays, final fields, constructors -/
section MK1
variable {ρ : Type} {l : Launch} {y : MethodName} {wy ws' : List Cond} {rm : Room} {G : gs_G} {w : ρ → va_W} {r : ρ} {av : List Value} {mc ms : Nat} {cc : ByteArray} {nL : Nat} {ret : Option FieldType}
theorem gm_v.ofN {post : ρ → Prop} (hy : plainName y.cls = true) (hw : wy = Cond.code y cc nL ret :: ws') (hlen : (lg_sl av).length ≤ nL)
    (body : ∀ (p : Program) (e : Env) (s : State) (m : MethodId) (args : Array Value) (below : List Frame) (meth : Method) (c : Code) (ls : Array Slot), gm_C p s m args meth c cc nL ret wy y.cls → meth.name = y.name → gs_Z G (w r) (va_A (w r) s.heap.size) s s.heap [] → lv_has ls nL (lv_args 0 av) →
      W p l e rm s m args below meth c s.heap [] 0 0 (MQ below (va_Qv post (fun u t => gm_B G (w r) s.heap.size (w u) t) (va_A (w r) s.heap.size)) args s mc ms (va_A (w r) s.heap.size)) (F0 m 0 ls [])) : gm_v l y wy rm G w r av post mc ms := by
  intro sz
  refine Met.ofW (cc := cc) (maxL := nL) (ret := ret) hy hw ?_
  intro p e s m args below meth c s₁ B hml hv
  obtain ⟨rfl, hv⟩ := hv
  obtain ⟨rfl, hz⟩ := gs_entry hv
  have hts := atoms_spec (ws := wy) B.pre
  have hcode : (Cond.code y cc nL ret).before av.toArray s = true := hts _ (by rw [hw]; exact List.mem_cons_self)
  have ht : ∀ x ∈ c.exceptionTable.toList, False := fun x hx => by
    have h1 := B.noHandlers hcode
    simp at h1
    rw [h1] at hx
    simp at hx
  have hl := lv_entry av (n := nL) hlen
  rw [lg_entry_eq]
  exact body p e s m av.toArray below meth c _ ⟨⟨B.exec, B.bytes, hml, findClass_of_methodNamed B.named, hts⟩, B.returns, B.notSynchronized, ht⟩ (name_of_methodNamed B.named B.method).1 hz hl
end MK1
theorem ra_uniq {U : State} {a b : ClassId} {ty : FieldType} (h : ty = .int ∨ ty = .boolean ∨ ty = .long) (h1 : va_RA U a ty) (h2 : va_RA U b ty) : a = b := by
  rcases h with rfl | rfl | rfl
  · exact Option.some.inj ((show U.vm.findClass _ = some a from h1).symm.trans (show U.vm.findClass _ = some b from h2))
  · exact Option.some.inj ((show U.vm.findClass _ = some a from h1).symm.trans (show U.vm.findClass _ = some b from h2))
  · exact Option.some.inj ((show U.vm.findClass _ = some a from h1).symm.trans (show U.vm.findClass _ = some b from h2))
section MK2
variable {p : Program} {l : Launch} {e : Env} {R : Room} {s : State} {m : MethodId} {args : Array Value} {below : List Frame} {meth : Method} {c : Code} {H : Heap} {locs : List Loc} {cells slots : Nat} {Q : State → Prop}
variable {cc : ByteArray} {pc : Nat} {ls : Array Slot} {rest : List Value} {G : gs_G} {ws wr : va_W} {A : Nat → Prop} {a : Nat}
theorem gs_newa {atype : ArrayType} {ty : FieldType} {N' : Nat} {a0 : vp_A} {cA : ClassId} (hx : p.tables.exec = Jvm.exec) (hb : c.code = cc) (hty : newarray.typeOf atype = ty) (harr : (Cond.arrayClass (newarray.typeOf atype)).before args s = true) (hz : gs_Z G ws A s H locs) (t0 : Nat) (ht : (gs_t G)[t0]? = some (cA, ty)) (hso : ty = .int ∨ ty = .boolean ∨ ty = .long)
    (ha : ∀ cA : ClassId, vp_cell cA a0 = arrV cA N' (fun _ => defaultValue ty)) {n : Int32} (hn : ¬ n < 0) (hN : n.toNatClampNeg = N') (hbytes : N' * componentBytes ty ≤ 536870912) (hcells : cells + 1 ≤ R.cells) (hslots : slots + N' ≤ R.slots) (hdg : decode cc pc = .ok (.newarray atype, 2))
    (kk : ∀ (q : Nat) (H1 : Heap), gs_Z G (ws ++ [(q, .inl (cA, a0))]) A s H1 locs → W p l e R s m args below meth c H1 locs (cells + 1) (slots + N') Q (F0 m (pc + 2) ls (.ref q :: rest))) : W p l e R s m args below meth c H locs cells slots Q (F0 m pc ls (.int n :: rest)) := by
  refine va_newa hx hb harr hty hz.1 hz.2.1 hz.2.2.1 hz.2.2.2.1 hz.2.2.2.2 ha hn hN hbytes hcells hslots hdg (fun q cB H1 hK hP hD hS => ?_)
  have e : cB = cA := ra_uniq hso (hK.2 3 (cB, ty) rfl).2 (hz.1.2 t0 _ ht).2
  subst e
  exact kk q H1 ⟨hz.1, hP, hD, hS, hz.2.2.2.2⟩
theorem gs_putF (hx : p.tables.exec = Jvm.exec) (hb : c.code = cc) {own ref C : String} {T : u_T} {N ci index : Nat} {Ts : List Cond} (hts : ∀ w ∈ Ts, w.before args s = true) (hin : ∀ w ∈ u_ws C T N, w ∈ Ts) (ty0 : Nat → FieldType) (hty : ∀ k, k < N → parseFieldDescriptor (T k).2.2.1 = some (ty0 k)) (hnm : ∀ a, a < N → ∀ b, b < N → a ≠ b → (T a).2.1 ≠ (T b).2.1) (hown : s.vm.findClass own = some m.cls) (hz : gs_Z G ws A s H locs) (q0 : Nat) {fs : List Value} (he : ws[q0]? = some (a, .inr (ci, fs))) (hc : xcl[ci]? = some (C, T, N)) (k : Nat) (hk : k < N) (href : ref = (T k).1) (hlink : (Cond.fieldLink own index ref (T k).2.1 (T k).2.2.1).before args s = true) (hfin : (T k).2.2.2 = true) (hin2 : meth.name = "<init>") (hdecl : (T k).1 = own) {ty : FieldType} (hd : parseFieldDescriptor (T k).2.2.1 = some ty) {v : Value} (hn : narrow ty v = v) (hfit : fits ty v = true) (hl : k < fs.length) (hdg : decode cc pc = .ok (.putfield index, 3))
    (kk : ∀ (H1 : Heap) (locs1 : List Loc), gs_Z G (ws.set q0 (a, .inr (ci, fs.set k v))) A s H1 locs1 → W p l e R s m args below meth c H1 locs1 cells slots Q (F0 m (pc + 3) ls rest)) : W p l e R s m args below meth c H locs cells slots Q (F0 m pc ls (v :: .ref a :: rest)) := by
  subst href
  refine va_putF hx hb hts hin ty0 hty hnm hown hz.1 hz.2.1 hz.2.2.1 hz.2.2.2.1 q0 he hc k hk hlink (fun _ h9 => h9) hfin hin2 hdecl hd hn hfit hl hdg (fun H1 locs1 h1 h2 h3 => ?_)
  exact kk H1 locs1 ⟨hz.1, h1, h2, h3, hz.2.2.2.2⟩
theorem gs_new {own C : String} {T : u_T} {N ci index : Nat} {Ts : List Cond} (hx : p.tables.exec = Jvm.exec) (hb : c.code = cc) (hts : ∀ w ∈ Ts, w.before args s = true) (hin : ∀ w ∈ u_ws C T N, w ∈ Ts) (ty : Nat → FieldType) (hty : ∀ k, k < N → parseFieldDescriptor (T k).2.2.1 = some (ty k)) (hown : s.vm.findClass own = some m.cls) (hcl : (Cond.classLink own index C).before args s = true) (hinst : (Cond.instantiable C N).before args s = true) (hini : (Cond.initialized C).before args s = true)
    (hz : gs_Z G ws A s H locs) (hc : xcl[ci]? = some (C, T, N)) {fs : List Value} (hfs : ∀ j, j < N → defaultValue (ty j) = vp_V fs j) (hcells : cells + 1 ≤ R.cells) (hslots : slots + N ≤ R.slots) (hdg : decode cc pc = .ok (.new index, 3))
    (kk : ∀ (q : Nat) (H1 : Heap), gs_Z G (ws ++ [(q, .inr (ci, fs))]) A s H1 locs → W p l e R s m args below meth c H1 locs (cells + 1) (slots + N) Q (F0 m (pc + 3) ls (.ref q :: rest))) : W p l e R s m args below meth c H locs cells slots Q (F0 m pc ls rest) := by
  refine va_new hx hb hts hin ty hty hown hcl hinst hini hz.1 hz.2.1 hz.2.2.1 hz.2.2.2.1 hz.2.2.2.2 hc hfs hcells hslots hdg (fun q H1 hP hD hS => ?_)
  exact kk q H1 ⟨hz.1, hP, hD, hS, hz.2.2.2.2⟩
theorem gs_callI {ρ : Type} {w : ρ → va_W} {r : ρ} {y : MethodName} {bytes : ByteArray} {maxL nL mc ms n index : Nat} {wy Ts : List Cond} {rm : Room} {own : String} {b : Nat} {As st0 : List Value} {post : ρ → Prop} (S : CallFix p m c cc nL s args Ts own) (hM : gm_v l y wy rm G w r (.ref b :: As) post mc ms) (cw : CallB R s args own index y bytes maxL none wy rm mc ms n ∧ y.name = "<init>" ∧ (Cond.instanceMethod y).before args s = true)
    (hz : gs_Z G (w r ++ wr) A s H locs) (hn : As.length = n) (hsize : ls.size = nL) (hst : st0 = As.reverse ++ .ref b :: rest) (hW : (rest.map fun v => v.category).sum ≤ 8) (hdg : decode cc pc = .ok (.invokespecial index, 3)) (hf : cells + mc ≤ R.cells ∧ slots + ms ≤ R.slots)
    (kk : ∀ (u : ρ) (H1 : Heap) (locs1 : List Loc), post u → gs_Z G (w u ++ wr) A s H1 locs1 → W p l e R s m args below meth c H1 locs1 (cells + mc) (slots + ms) Q (F0 m (pc + 3) ls rest)) : W p l e R s m args below meth c H locs cells slots Q (F0 m pc ls st0) := by
  refine va_callv (va_runI (As := As) (rest := rest) S (hM H.size) cw ⟨gm_blind, gs_pre hz⟩ rfl hn hsize hst (lv_room hW) hdg hf) hz.2.2.2.1 (fun q _ h => gs_F1 hz q h) (gs_F1 hz) (fun u t H1 locs1 ht hvm hw hB hz1 hk1 hS => ?_)
  obtain ⟨hP1, hK1, hD1⟩ := hB
  rw [ht] at hP1
  exact kk u H1 locs1 hw (gs_back hz hk1 hP1 hD1 hS)
/-- worlds in another order -/
theorem gs_swap {wa wb : va_W} (hz : gs_Z G (wa ++ wb) A s H locs) : gs_Z G (wb ++ wa) A s H locs := by
  have key : ∀ (i : Nat) (x : Nat × va_E), (wb ++ wa)[i]? = some x → ∃ j, (wa ++ wb)[j]? = some x ∧ (if i < wb.length then j = wa.length + i else wb.length + j = i ∧ j < wa.length) := by
    intro i x hi
    by_cases q : i < wb.length
    · rw [List.getElem?_append_left q] at hi
      refine ⟨wa.length + i, ?_, ?_⟩
      · rw [List.getElem?_append_right (Nat.le_add_right _ _), Nat.add_sub_cancel_left]; exact hi
      · rw [if_pos q]
    · rw [List.getElem?_append_right (by omega)] at hi
      have hlt := (List.getElem?_eq_some_iff.mp hi).1
      refine ⟨i - wb.length, ?_, ?_⟩
      · rw [List.getElem?_append_left hlt]; exact hi
      · rw [if_neg q]; exact ⟨by omega, hlt⟩
  refine ⟨hz.1, fun k q hq => ?_, ⟨fun i j x y hi hj hxy => ?_, fun k q hq => ?_⟩, hz.2.2.2.1, hz.2.2.2.2⟩
  · obtain ⟨j, hj, -⟩ := key k q hq
    exact hz.2.1 j q hj
  · obtain ⟨i', hi', ei⟩ := key i x hi
    obtain ⟨j', hj', ej⟩ := key j y hj
    have := hz.2.2.1.1 i' j' x y hi' hj' hxy
    by_cases q1 : i < wb.length
    · rw [if_pos q1] at ei
      by_cases q2 : j < wb.length
      · rw [if_pos q2] at ej; omega
      · rw [if_neg q2] at ej; omega
    · rw [if_neg q1] at ei
      by_cases q2 : j < wb.length
      · rw [if_pos q2] at ej; omega
      · rw [if_neg q2] at ej; omega
  · obtain ⟨j, hj, -⟩ := key k q hq
    exact hz.2.2.1.2 j q hj
end MK2
set_option maxHeartbeats 4000000 in
set_option maxRecDepth 100000 in
/-- Arrays.fill(a, v) -/
theorem k_fill (l : Launch) (G : gs_G) (ws : va_W) (i0 a0 n : Nat) (f : Nat → Int32) (hw : ws[i0]? = some (a0, .inl (G.2.1, n, .inl f))) (v : Int32) (hn : n < 2 ^ 31) : gm_v l yJ7_fill_53178 wsJ7_fill_53178 (gm_rm 1 0 0) G (fun w : va_W => w) ws [.ref a0, .int v] (fun u => u = ws.set i0 (a0, .inl (G.2.1, n, .inl (fun j => if 0 ≤ j ∧ j < n then v else f j)))) 0 0 := by
  refine gm_v.of (cc := cJ7_fill_53178) (nL := 4) (ret := none) (by decide +kernel) rfl (Nat.le_of_ble_eq_true rfl) ?_
  intro p e s m args below meth c ls C0 hz hl
  have hl : lv_has ls 4 [(0, .ref a0), (1, .int v)] := hl
  refine lv_iconst (v := nI 0) C0.1.1 C0.1.2.1 dJ7_fill_53178_0 (by decide) ?_
  refine lv_istore_n (lv' := [(2, .int (nI 0)), (0, .ref a0), (1, .int v)]) C0.1.1 C0.1.2.1 dJ7_fill_53178_1 rfl hl (by decide) rfl (fun ls hl => ?_)
  refine lv_aload_n C0.1.1 C0.1.2.1 dJ7_fill_53178_2 rfl (lv_at hl 1 rfl) ?_
  refine va_alen (v := nI n) C0.1.1 C0.1.2.1 hz.1 hz.2.1 i0 0 hw rfl rfl dJ7_fill_53178_3 ?_
  refine lv_istore_n (lv' := [(3, .int (nI n)), (2, .int (nI 0)), (0, .ref a0), (1, .int v)]) C0.1.1 C0.1.2.1 dJ7_fill_53178_4 rfl hl (by decide) rfl (fun ls hl => ?_)
  have hz2 : gs_Z G (ws.set i0 (a0, .inl (G.2.1, n, .inl (fun j => if 0 ≤ j ∧ j < 0 then v else f j)))) (va_A ws s.heap.size) s s.heap [] := by
    rw [← fl_0, ← fl_set hw]; exact hz
  have hil : i0 < ws.length := (List.getElem?_eq_some_iff.mp hw).1
  have hl : lv_has ls 4 [(2, .int (nI 0)), (3, .int (nI n)), (0, .ref a0), (1, .int v)] := lv_sub hl [1, 0, 2, 3] rfl
  refine (?loop : ∀ (d k : Nat) (ls : Array Slot) (H : Heap) (locs : List Loc), gs_Z G (ws.set i0 (a0, .inl (G.2.1, n, .inl (fun j => if 0 ≤ j ∧ j < k then v else f j)))) (va_A ws s.heap.size) s H locs → k + d = n → lv_has ls 4 [(2, .int (nI k)), (3, .int (nI n)), (0, .ref a0), (1, .int v)] → W p l e _ s m args below meth c H locs 0 0 _ (F0 m 5 ls [])) n 0 ls _ _ hz2 (Nat.zero_add _) hl
  intro d
  induction d using Nat.strongRecOn with
  | _ d ih =>
    intro k ls H locs hz hd hl
    refine lv_iload_n C0.1.1 C0.1.2.1 dJ7_fill_53178_5 rfl (lv_at hl 0 rfl) ?_
    refine lv_iload_n C0.1.1 C0.1.2.1 dJ7_fill_53178_6 rfl (lv_at hl 1 rfl) ?_
    refine lv_icmp_ge (tgt := 20) C0.1.1 C0.1.2.1 dJ7_fill_53178_7 (by decide) (fun c1 => ?_) (fun c1 => ?_)
    · rw [nI_leI (by omega) (by omega)] at c1
      obtain rfl : k = n := by omega
      exact gs_retv (w := fun w : va_W => w) _ C0 hz rfl (Nat.le_of_ble_eq_true rfl) (Nat.le_of_ble_eq_true rfl) dJ7_fill_53178_20
    · rw [nI_leI (by omega) (by omega)] at c1
      refine lv_aload_n C0.1.1 C0.1.2.1 dJ7_fill_53178_10 rfl (lv_at hl 2 rfl) ?_
      refine lv_iload_n C0.1.1 C0.1.2.1 dJ7_fill_53178_11 rfl (lv_at hl 0 rfl) ?_
      refine lv_iload_n C0.1.1 C0.1.2.1 dJ7_fill_53178_12 rfl (lv_at hl 3 rfl) ?_
      refine gs_st C0.1.1 C0.1.2.1 hz i0 (List.getElem?_set_self hil) rfl k (by omega) hn rfl dJ7_fill_53178_13 (fun H locs hz => ?_)
      rw [List.set_set, fl_st (Nat.zero_le _)] at hz
      refine lv_iinc (v := nI (k + 1)) (lv' := [(2, .int (nI (k + 1))), (3, .int (nI n)), (0, .ref a0), (1, .int v)]) C0.1.1 C0.1.2.1 dJ7_fill_53178_14 hl (k := 0) rfl (nI_1 k) (by decide) rfl (fun ls hl => ?_)
      refine lv_goto (tgt := 5) C0.1.1 C0.1.2.1 dJ7_fill_53178_17 (by decide) ?_
      exact ih (d - 1) (by omega) (k + 1) ls _ _ hz (by omega) hl
def kf_m1 : Nat → Int32 := fun j => if 0 ≤ j ∧ j < 48 then -1 else 0
theorem rx_0 : rx hs_0 (fun _ => 0, kf_m1, fun _ => 0, fun _ => 0, fun _ => 0, fun _ => 0, fun _ => 0, 0, 0, 0) := by
  refine ⟨fun h hh => ?_, fun h hh => rfl, fun h hh hu => ?_, ⟨rfl, fun k hk => absurd hk (Nat.not_lt_zero _)⟩, fun h hh hu => ?_, rfl, rfl⟩
  · show kf_m1 h = -1
    exact if_pos ⟨Nat.zero_le _, hh⟩
  · cases hu
  · cases hu
theorem ry_0 : ry hs_0 (0, fun _ => 0, fun _ => 0, fun _ => 0, fun _ => 0, fun _ => 0, fun _ => 0, fun _ => 0, 0, 0) := by
  refine ⟨fun h hh => rfl, fun h hh => rfl, fun h hh hu => ?_, fun h hh hu => ?_, rfl, rfl⟩
  · cases hu
  · cases hu
