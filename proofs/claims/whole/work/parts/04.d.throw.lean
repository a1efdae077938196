/-! THROWING: what a throw of ours needs of the tables and of two statics; contracts that return or throw -/
def xz_W : List Cond := [.declares (Bundle.initS "java/lang/RuntimeException"), .declares (Bundle.initS "java/lang/Exception"), .declares (Bundle.initS Bundle.tN), .castable "java/lang/IllegalArgumentException" "java/lang/IllegalArgumentException", .castable "java/lang/IllegalStateException" "java/lang/IllegalStateException", .castable "java/lang/IndexOutOfBoundsException" "java/lang/IndexOutOfBoundsException"]
def xz_s : List (Nat × String) := [(90, "the block is not movable"), (106, "n is not 0 to 1024"), (115, "v is not 0 to 255"), (132, "what is not 0 to 6"), (134, "handle is not 0 to 47"), (136, "the handle is unused"), (138, "the handle is empty"), (140, "n is not 1 to 1024"), (144, "there is no such byte")]
def xz (A : Nat → Prop) (U : State) (H : Heap) : Prop := (∀ w ∈ xz_W, va_Nw w U) ∧ (∀ q ∈ xz_s, ∃ sa, vk_R RX0 q.1 q.2 sa U) ∧ vx_Zq Bundle.tN "UNASSIGNED_STACK" Bundle.steD A U H ∧ vx_Zq Bundle.tN "SUPPRESSED_SENTINEL" Bundle.listD A U H
theorem xz.moved {A : Nat → Prop} {s U : State} {H : Heap} (hW : s.WarmedH U.vm) (h : xz A s H) : xz A U H := by
  obtain ⟨h1, h2, h3, h4⟩ := h
  refine ⟨fun w hw => ?_, fun q hq => ?_, h3.moved hW.alike, h4.moved hW.alike⟩
  · have h9 := h1 w hw
    simp only [xz_W, List.mem_cons, List.not_mem_nil, or_false] at hw
    rcases hw with rfl | rfl | rfl | rfl | rfl | rfl
    · exact va_Nw.warmD hW h9
    · exact va_Nw.warmD hW h9
    · exact va_Nw.warmD hW h9
    · exact va_Nw.warmC hW h9
    · exact va_Nw.warmC hW h9
    · exact va_Nw.warmC hW h9
  · obtain ⟨sa, h9⟩ := h2 q hq
    exact ⟨sa, h9.warm hW⟩
theorem xz.kept {A : Nat → Prop} {U : State} {H H1 : Heap} (h : xz A U H) (hq : ∀ a : Nat, a < H.size → ¬ A a → H1[a]? = H[a]?) : xz A U H1 := ⟨h.1, h.2.1, h.2.2.1.kept hq, h.2.2.2.kept hq⟩
theorem xz.narrow {A B : Nat → Prop} {U : State} {H : Heap} (h : xz A U H) (hAB : ∀ q, B q → A q) : xz B U H := ⟨h.1, h.2.1, h.2.2.1.narrow hAB, h.2.2.2.narrow hAB⟩
def gx_P (G : gs_G) (ws : va_W) (sz : Nat) (U : State) : Prop := gm_P G ws sz U ∧ xz (va_A ws sz) U U.heap
def gx_X (G : gs_G) (ws : va_W) (xE : String → Prop) (sz : Nat) : String → State → State → Prop := vx_X (fun _ : Unit => True) (fun E _ t => xE E ∧ gm_B G ws sz ws t) (va_A ws sz)
def gx_i {ρ : Type} (l : Launch) (y : MethodName) (wy : List Cond) (rm : Room) (G : gs_G) (w : ρ → va_W) (r : ρ) (av : List Value) (post : Int32 → ρ → Prop) (xE : String → Prop) (mc ms : Nat) : Prop :=
  ∀ sz : Nat, vx_Met l y wy rm (va_Pc av (gx_P G (w r) sz)) (va_Qi post (fun u t => gm_B G (w r) sz (w u) t) (va_A (w r) sz)) (gx_X G (w r) xE sz) mc ms (va_A (w r) sz)
def gx_v {ρ : Type} (l : Launch) (y : MethodName) (wy : List Cond) (rm : Room) (G : gs_G) (w : ρ → va_W) (r : ρ) (av : List Value) (post : ρ → Prop) (xE : String → Prop) (mc ms : Nat) : Prop :=
  ∀ sz : Nat, vx_Met l y wy rm (va_Pc av (gx_P G (w r) sz)) (va_Qv post (fun u t => gm_B G (w r) sz (w u) t) (va_A (w r) sz)) (gx_X G (w r) xE sz) mc ms (va_A (w r) sz)
theorem gx_blind {G : gs_G} {ws : va_W} {av : List Value} {sz : Nat} : FrameBlind (va_Pc av (gx_P G ws sz)) := fun a U g mk q => by
  obtain ⟨q0, q1, q2⟩ := q
  obtain ⟨-, q3⟩ := gm_blind (G := G) (ws := ws) (av := av) (sz := sz) a U g mk ⟨q0, q1⟩
  exact ⟨q0, q3, xz.moved (s := U) (U := U.calling g mk a) (State.WarmedH.refl U) q2⟩
section GXB
variable {ρ : Type} {l : Launch} {y : MethodName} {wy ws' : List Cond} {rm : Room} {G : gs_G} {w : ρ → va_W} {r : ρ} {av : List Value} {mc ms : Nat} {cc : ByteArray} {nL : Nat} {ret : Option FieldType} {xE : String → Prop}
theorem gx_i.of {post : Int32 → ρ → Prop} (hy : plainName y.cls = true) (hw : wy = Cond.code y cc nL ret :: ws') (hlen : (lg_sl av).length ≤ nL)
    (body : ∀ (p : Program) (e : Env) (s : State) (m : MethodId) (args : Array Value) (below : List Frame) (meth : Method) (c : Code) (ls : Array Slot), gm_C p s m args meth c cc nL ret wy y.cls → gs_Z G (w r) (va_A (w r) s.heap.size) s s.heap [] → xz (va_A (w r) s.heap.size) s s.heap → lv_has ls nL (lv_args 0 av) →
      W p l e rm s m args below meth c s.heap [] 0 0 (vx_MQ below (va_Qi post (fun u t => gm_B G (w r) s.heap.size (w u) t) (va_A (w r) s.heap.size)) (gx_X G (w r) xE s.heap.size) args s mc ms (va_A (w r) s.heap.size)) (F0 m 0 ls [])) : gx_i l y wy rm G w r av post xE mc ms := by
  intro sz
  refine vx_ofW (cc := cc) (maxL := nL) (ret := ret) hy hw ?_
  intro p e s m args below meth c s₁ B hml ht hv
  obtain ⟨rfl, hv, hxz⟩ := hv
  obtain ⟨rfl, hz⟩ := gs_entry hv
  have hts := atoms_spec (ws := wy) B.pre
  have hl := lv_entry av (n := nL) hlen
  rw [lg_entry_eq]
  exact body p e s m av.toArray below meth c _ ⟨⟨B.exec, B.bytes, hml, findClass_of_methodNamed B.named, hts⟩, B.returns, B.notSynchronized, ht⟩ hz hxz hl
theorem gx_v.of {post : ρ → Prop} (hy : plainName y.cls = true) (hw : wy = Cond.code y cc nL ret :: ws') (hlen : (lg_sl av).length ≤ nL)
    (body : ∀ (p : Program) (e : Env) (s : State) (m : MethodId) (args : Array Value) (below : List Frame) (meth : Method) (c : Code) (ls : Array Slot), gm_C p s m args meth c cc nL ret wy y.cls → gs_Z G (w r) (va_A (w r) s.heap.size) s s.heap [] → xz (va_A (w r) s.heap.size) s s.heap → lv_has ls nL (lv_args 0 av) →
      W p l e rm s m args below meth c s.heap [] 0 0 (vx_MQ below (va_Qv post (fun u t => gm_B G (w r) s.heap.size (w u) t) (va_A (w r) s.heap.size)) (gx_X G (w r) xE s.heap.size) args s mc ms (va_A (w r) s.heap.size)) (F0 m 0 ls [])) : gx_v l y wy rm G w r av post xE mc ms := by
  intro sz
  refine vx_ofW (cc := cc) (maxL := nL) (ret := ret) hy hw ?_
  intro p e s m args below meth c s₁ B hml ht hv
  obtain ⟨rfl, hv, hxz⟩ := hv
  obtain ⟨rfl, hz⟩ := gs_entry hv
  have hts := atoms_spec (ws := wy) B.pre
  have hl := lv_entry av (n := nL) hlen
  rw [lg_entry_eq]
  exact body p e s m av.toArray below meth c _ ⟨⟨B.exec, B.bytes, hml, findClass_of_methodNamed B.named, hts⟩, B.returns, B.notSynchronized, ht⟩ hz hxz hl
end GXB
section GXS
variable {p : Program} {l : Launch} {e : Env} {R : Room} {s : State} {m : MethodId} {args : Array Value} {below : List Frame} {meth : Method} {c : Code} {H : Heap} {locs : List Loc} {cells slots : Nat} {Q : State → Prop}
variable {cc : ByteArray} {pc : Nat} {ls : Array Slot} {rest : List Value} {G : gs_G} {ws wr : va_W} {A : Nat → Prop} {a : Nat}
/-- throw new E("text"), E one of our three; nothing has been written -/
theorem gs_throw {Qc : Array Value → State → Outcome → State → Prop} {nL : Nat} {ret : Option FieldType} {wy : List Cond} {ik is ic mc ms : Nat} {cls text : String} {xE : String → Prop} (C0 : gm_C p s m args meth c cc nL ret wy RX0) (hl : l.stackTraces = false)
    (hz : gs_Z G ws (va_A ws s.heap.size) s H locs) (hxz : xz (va_A ws s.heap.size) s s.heap) (hx : xE cls) (hE : cls = "java/lang/IllegalArgumentException" ∨ cls = "java/lang/IllegalStateException" ∨ cls = "java/lang/IndexOutOfBoundsException") (ht : (is, text) ∈ xz_s)
    (hk : (Cond.classLink RX0 ik cls).before args s = true) (hini : (Cond.initialized cls).before args s = true) (hg : ∀ w ∈ (vx_atS RX0 ic cls ["java/lang/RuntimeException", "java/lang/Exception"]).filter goodWord, w.before args s = true)
    (hbad : ∀ w ∈ (vx_atS RX0 ic cls ["java/lang/RuntimeException", "java/lang/Exception"]).filter (fun w => !goodWord w), w ∈ xz_W) (hgood : ∀ w ∈ Cond.classLink RX0 ik cls :: Cond.initialized cls :: vx_atS RX0 ic cls ["java/lang/RuntimeException", "java/lang/Exception"], vx_ot w = true)
    (hsize : ls.size = nL) (d0 : decode cc pc = .ok (.new ik, 3)) (d3 : decode cc (pc + 3) = .ok (.dup, 1)) (d4 : decode cc (pc + 4) = .ok (.ldc is, 2)) (d6 : decode cc (pc + 6) = .ok (.invokespecial ic, 3)) (d9 : decode cc (pc + 9) = .ok (.athrow, 1))
    (hRf : 5 < R.frames) (hRl : (rest.map fun v => v.category).sum + 82 ≤ R.locals) (hRc : cells + 1 ≤ R.cells) (hRs : slots + 6 ≤ R.slots) (hc : cells + 1 ≤ mc) (hs : slots + 6 ≤ ms) :
    W p l e R s m args below meth c H locs cells slots (vx_MQ below Qc (gx_X G ws xE s.heap.size) args s mc ms (va_A ws s.heap.size)) (F0 m pc ls rest) := by
  obtain ⟨⟨hx0, hb, hml, hown, hts⟩, -, hlocks, htab⟩ := C0
  obtain ⟨sa, hsa⟩ := hxz.2.1 _ ht
  have hfit : Bundle.fit cls = true := by rcases hE with rfl | rfl | rfl <;> decide +kernel
  refine vx_throwS hx0 hb hl (own := RX0) (cls := cls) (text := text) (names := ["java/lang/RuntimeException", "java/lang/Exception"]) (A := va_A ws s.heap.size) hown hfit (by decide +kernel) hk hini hsa ?_ hgood hxz.2.2.1 hxz.2.2.2 hz.2.2.2.1 (by rw [hml]; exact hsize) d0 d3 d4 d6 d9 (fun x hx9 => (htab x hx9).elim) hRf hRl hRc hRs hlocks ?_ hz.2.2.2.1.2.2 hc hs
  · exact vx_hat hg hbad (fun w hw => va_Nw.use (by
      simp only [xz_W, List.mem_cons, List.not_mem_nil, or_false] at hw
      rcases hw with rfl | rfl | rfl | rfl | rfl | rfl <;> rfl) (hxz.1 w hw))
  · intro t hvm hsz hkeep
    have hP : va_P G.1 xcl ws t.heap := hz.2.1.kept (fun k q h => hkeep q.1 ((hz.2.1 k q h).lt))
    refine ⟨(), trivial, ⟨hx, hP, va_K.moved hvm hz.1, hz.2.2.1⟩, Nat.le_trans hz.2.2.2.1.1 hsz, fun q h1 h2 => ?_⟩
    rw [hkeep q (Nat.lt_of_lt_of_le h1 hz.2.2.2.1.1)]
    exact hz.2.2.2.1.2.1 q h1 h2
theorem gs_xpre (hz : gs_Z G (ws ++ wr) A s H locs) (hxz : xz A s s.heap) {av : List Value} : ∀ U : State, U.heap = H → s.WarmedH U.vm → va_Pc av (gx_P G ws H.size) av.toArray U := fun U hU hW => by
  obtain ⟨h1, h2⟩ := gs_pre hz (av := av) U hU hW
  refine ⟨h1, h2, ?_⟩
  have h3 : xz A s H := hxz.kept (fun a ha hA => hz.2.2.2.1.2.1 a ha hA)
  rw [hU]
  exact (h3.moved hW).narrow (gs_F1 hz)
section CALLX
variable {ρ : Type} {w : ρ → va_W} {r : ρ} {y : MethodName} {bytes : ByteArray} {maxL nL mc ms n index : Nat} {ret : Option FieldType} {wy Ts : List Cond} {rm : Room} {own C : String} {b : Nat} {As st0 : List Value} {xE : String → Prop}
theorem gx_callVi {post : Int32 → ρ → Prop} (S : CallFix p m c cc nL s args Ts own) (hM : gx_i l y wy rm G w r (.ref b :: As) post xE mc ms) (cw : CallW R s args own C index y bytes maxL ret wy rm mc ms n) {ci : Nat} {fs : List Value} {q : vw_C} (he : (w r)[0]? = some (b, .inr (ci, fs))) (hc : xcl[ci]? = some q) (hq : q.1 = C)
    (hz : gs_Z G (w r ++ wr) A s H locs) (hxz : xz A s s.heap) (hn : As.length = n) (hsize : ls.size = nL) (hst : st0 = As.reverse ++ .ref b :: rest) (hW : (rest.map fun v => v.category).sum ≤ 8) (hdg : decode cc pc = .ok (.invokevirtual index, 3)) (hf : cells + mc ≤ R.cells ∧ slots + ms ≤ R.slots)
    (kx : ∀ (E : String) (ce : Cell) (q9 : Addr) (H1 : Heap) (locs1 : List Loc), xE E → gs_Z G (w r ++ wr) A s H1 locs1 → H1[q9]? = some ce → ce.vm = .none → s.vm.findClass E = some ce.cls → vx_W p l e R s m args below meth c H1 locs1 (cells + mc) (slots + ms) Q (F0 m pc ls rest) q9)
    (kk : ∀ (res : Int32) (u : ρ) (H1 : Heap) (locs1 : List Loc), post res u → gs_Z G (w u ++ wr) A s H1 locs1 → W p l e R s m args below meth c H1 locs1 (cells + mc) (slots + ms) Q (F0 m (pc + 3) ls (.int res :: rest))) : W p l e R s m args below meth c H locs cells slots Q (F0 m pc ls st0) := by
  have hrecv := va_recv hz.1 (gs_P1 hz) hc he
  rw [hq] at hrecv
  refine vx_calli (vx_runV (As := As) (rest := rest) S (hM H.size) cw ⟨gx_blind, hrecv, gs_xpre hz hxz⟩ rfl hn hsize hst (lv_room hW) hdg hf) hz.2.2.2.1 (fun q _ h => gs_F1 hz q h) (gs_F1 hz) (fun q _ h => gs_F1 hz q h) (fun E ce q9 u t H1 locs1 ht hvm hp hB hz1 hk1 hS hce hcv hcl => ?_) (fun res u t H1 locs1 ht hvm hw hB hz1 hk1 hS => ?_)
  · obtain ⟨hE, hP1, hK1, hD1⟩ := hB
    rw [ht] at hP1
    exact kx E ce q9 H1 locs1 hE (gs_back hz hk1 hP1 hD1 hS) hce hcv hcl
  · obtain ⟨hP1, hK1, hD1⟩ := hB
    rw [ht] at hP1
    exact kk res u H1 locs1 hw (gs_back hz hk1 hP1 hD1 hS)
theorem gx_callVv {post : ρ → Prop} (S : CallFix p m c cc nL s args Ts own) (hM : gx_v l y wy rm G w r (.ref b :: As) post xE mc ms) (cw : CallW R s args own C index y bytes maxL ret wy rm mc ms n) {ci : Nat} {fs : List Value} {q : vw_C} (he : (w r)[0]? = some (b, .inr (ci, fs))) (hc : xcl[ci]? = some q) (hq : q.1 = C)
    (hz : gs_Z G (w r ++ wr) A s H locs) (hxz : xz A s s.heap) (hn : As.length = n) (hsize : ls.size = nL) (hst : st0 = As.reverse ++ .ref b :: rest) (hW : (rest.map fun v => v.category).sum ≤ 8) (hdg : decode cc pc = .ok (.invokevirtual index, 3)) (hf : cells + mc ≤ R.cells ∧ slots + ms ≤ R.slots)
    (kx : ∀ (E : String) (ce : Cell) (q9 : Addr) (H1 : Heap) (locs1 : List Loc), xE E → gs_Z G (w r ++ wr) A s H1 locs1 → H1[q9]? = some ce → ce.vm = .none → s.vm.findClass E = some ce.cls → vx_W p l e R s m args below meth c H1 locs1 (cells + mc) (slots + ms) Q (F0 m pc ls rest) q9)
    (kk : ∀ (u : ρ) (H1 : Heap) (locs1 : List Loc), post u → gs_Z G (w u ++ wr) A s H1 locs1 → W p l e R s m args below meth c H1 locs1 (cells + mc) (slots + ms) Q (F0 m (pc + 3) ls rest)) : W p l e R s m args below meth c H locs cells slots Q (F0 m pc ls st0) := by
  have hrecv := va_recv hz.1 (gs_P1 hz) hc he
  rw [hq] at hrecv
  refine vx_callv (vx_runV (As := As) (rest := rest) S (hM H.size) cw ⟨gx_blind, hrecv, gs_xpre hz hxz⟩ rfl hn hsize hst (lv_room hW) hdg hf) hz.2.2.2.1 (fun q _ h => gs_F1 hz q h) (gs_F1 hz) (fun q _ h => gs_F1 hz q h) (fun E ce q9 u t H1 locs1 ht hvm hp hB hz1 hk1 hS hce hcv hcl => ?_) (fun u t H1 locs1 ht hvm hw hB hz1 hk1 hS => ?_)
  · obtain ⟨hE, hP1, hK1, hD1⟩ := hB
    rw [ht] at hP1
    exact kx E ce q9 H1 locs1 hE (gs_back hz hk1 hP1 hD1 hS) hce hcv hcl
  · obtain ⟨hP1, hK1, hD1⟩ := hB
    rw [ht] at hP1
    exact kk u H1 locs1 hw (gs_back hz hk1 hP1 hD1 hS)
theorem gx_callSv {post : ρ → Prop} (S : CallFix p m c cc nL s args Ts own) (hM : gx_v l y wy rm G w r As post xE mc ms) (cw : CallB R s args own index y bytes maxL ret wy rm mc ms n ∧ (Cond.static y).before args s = true)
    (hz : gs_Z G (w r ++ wr) A s H locs) (hxz : xz A s s.heap) (hn : As.length = n) (hsize : ls.size = nL) (hst : st0 = As.reverse ++ rest) (hW : (rest.map fun v => v.category).sum ≤ 8) (hdg : decode cc pc = .ok (.invokestatic index, 3)) (hf : cells + mc ≤ R.cells ∧ slots + ms ≤ R.slots)
    (kx : ∀ (E : String) (ce : Cell) (q9 : Addr) (H1 : Heap) (locs1 : List Loc), xE E → gs_Z G (w r ++ wr) A s H1 locs1 → H1[q9]? = some ce → ce.vm = .none → s.vm.findClass E = some ce.cls → vx_W p l e R s m args below meth c H1 locs1 (cells + mc) (slots + ms) Q (F0 m pc ls rest) q9)
    (kk : ∀ (u : ρ) (H1 : Heap) (locs1 : List Loc), post u → gs_Z G (w u ++ wr) A s H1 locs1 → W p l e R s m args below meth c H1 locs1 (cells + mc) (slots + ms) Q (F0 m (pc + 3) ls rest)) : W p l e R s m args below meth c H locs cells slots Q (F0 m pc ls st0) := by
  refine vx_callv (vx_runS (As := As) (rest := rest) S (hM H.size) cw ⟨gx_blind, gs_xpre hz hxz⟩ rfl hn hsize hst (lv_room hW) hdg hf) hz.2.2.2.1 (fun q _ h => gs_F1 hz q h) (gs_F1 hz) (fun q _ h => gs_F1 hz q h) (fun E ce q9 u t H1 locs1 ht hvm hp hB hz1 hk1 hS hce hcv hcl => ?_) (fun u t H1 locs1 ht hvm hw hB hz1 hk1 hS => ?_)
  · obtain ⟨hE, hP1, hK1, hD1⟩ := hB
    rw [ht] at hP1
    exact kx E ce q9 H1 locs1 hE (gs_back hz hk1 hP1 hD1 hS) hce hcv hcl
  · obtain ⟨hP1, hK1, hD1⟩ := hB
    rw [ht] at hP1
    exact kk u H1 locs1 hw (gs_back hz hk1 hP1 hD1 hS)
end CALLX
/-- what a callee threw goes on to the caller; our world is as it was at the start -/
theorem gs_pass {Qc : Array Value → State → Outcome → State → Prop} {nL mc ms : Nat} {ret : Option FieldType} {wy : List Cond} {own E : String} {xE : String → Prop} {ce : Cell} {q9 : Addr} (C0 : gm_C p s m args meth c cc nL ret wy own) (hx : xE E) (hz : gs_Z G ws (va_A ws s.heap.size) s H locs) (hce : H[q9]? = some ce) (hcv : ce.vm = .none) (hcl : s.vm.findClass E = some ce.cls) (hc : cells ≤ mc) (hs : slots ≤ ms) :
    vx_W p l e R s m args below meth c H locs cells slots (vx_MQ below Qc (gx_X G ws xE s.heap.size) args s mc ms (va_A ws s.heap.size)) (F0 m pc ls rest) q9 :=
  vx_out (fun x hx9 => (C0.2.2.2 x hx9).elim) C0.2.2.1 hce hcv hcl (fun t ht hvm => ⟨(), trivial, ⟨hx, by rw [ht]; exact hz.2.1, va_K.moved hvm hz.1, hz.2.2.1⟩, hz.2.2.2.1.F ht⟩) hz.2.2.2.1.2.2 hc hs
end GXS
