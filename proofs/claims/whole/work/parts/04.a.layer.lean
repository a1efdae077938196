/-! THE LAYER: one world of ours (a list of cells), its rows, its calls. G: (where fields lie, the numbers of int[], boolean[], long[]). -/
abbrev xcl : List vw_C := [(RX0, TX0, 10), (RX1, TX1, 10)]
abbrev gs_G : Type := va_G × ClassId × ClassId × ClassId
abbrev gs_t (G : gs_G) : List (ClassId × FieldType) := [(G.2.1, .int), (G.2.2.1, .boolean), (G.2.2.2, .long)]
/-- the world ws stands in H, since s nothing outside A has changed -/
def gs_Z (G : gs_G) (ws : va_W) (A : Nat → Prop) (s : State) (H : Heap) (locs : List Loc) : Prop := va_K G.1 xcl (gs_t G) s ∧ va_P G.1 xcl ws H ∧ va_D A ws ∧ va_S A s.heap H locs ∧ ∀ q : Nat, s.heap.size ≤ q → A q
/-- a method's start, and its end -/
def gm_P (G : gs_G) (ws : va_W) (sz : Nat) (U : State) : Prop := U.heap.size = sz ∧ va_P G.1 xcl ws U.heap ∧ va_K G.1 xcl (gs_t G) U ∧ va_D (fun _ => True) ws
def gm_B (G : gs_G) (ws0 : va_W) (sz : Nat) (ws : va_W) (t : State) : Prop := va_P G.1 xcl ws t.heap ∧ va_K G.1 xcl (gs_t G) t ∧ va_D (va_A ws0 sz) ws
/-- a contract: for every size of the heap; an answer that is an int or a boolean; no answer -/
def gm_i {ρ : Type} (l : Launch) (y : MethodName) (wy : List Cond) (rm : Room) (G : gs_G) (w : ρ → va_W) (r : ρ) (av : List Value) (post : Int32 → ρ → Prop) (mc ms : Nat) : Prop :=
  ∀ sz : Nat, Met l y wy rm (va_Pc av (gm_P G (w r) sz)) (va_Qi post (fun u t => gm_B G (w r) sz (w u) t) (va_A (w r) sz)) mc ms (va_A (w r) sz)
def gm_v {ρ : Type} (l : Launch) (y : MethodName) (wy : List Cond) (rm : Room) (G : gs_G) (w : ρ → va_W) (r : ρ) (av : List Value) (post : ρ → Prop) (mc ms : Nat) : Prop :=
  ∀ sz : Nat, Met l y wy rm (va_Pc av (gm_P G (w r) sz)) (va_Qv post (fun u t => gm_B G (w r) sz (w u) t) (va_A (w r) sz)) mc ms (va_A (w r) sz)
abbrev gm_rm (d mc ms : Nat) : Room := { frames := d, cells := mc, slots := ms, locals := 40 * d }
/-- what a body stands on -/
def gm_C (p : Program) (s : State) (m : MethodId) (args : Array Value) (meth : Method) (c : Code) (cc : ByteArray) (nL : Nat) (ret : Option FieldType) (wy : List Cond) (own : String) : Prop :=
  CallFix p m c cc nL s args wy own ∧ meth.sig.returnType = ret ∧ meth.locks = false ∧ (∀ x ∈ c.exceptionTable.toList, False)
theorem gm_blind {G : gs_G} {ws : va_W} {av : List Value} {sz : Nat} : FrameBlind (va_Pc av (gm_P G ws sz)) := fun a U g mk q => by
  obtain ⟨q0, q1, qP, qK, qD⟩ := q
  exact ⟨q0, q1, qP, va_K.moved (u := U) (U := U.calling g mk a) (Vm.Alike.refl U.vm) qK, qD⟩
theorem gs_entry {G : gs_G} {ws : va_W} {s : State} {sz : Nat} (h : gm_P G ws sz s) : sz = s.heap.size ∧ gs_Z G ws (va_A ws s.heap.size) s s.heap [] := by
  obtain ⟨h1, h2, h3, h4⟩ := h
  exact ⟨h1.symm, h3, h2, h4.self, va_S.rf, fun q h => Or.inr h⟩
section GM
variable {ρ : Type} {l : Launch} {y : MethodName} {wy ws' : List Cond} {rm : Room} {G : gs_G} {w : ρ → va_W} {r : ρ} {av : List Value} {mc ms : Nat} {cc : ByteArray} {nL : Nat} {ret : Option FieldType}
theorem gm_i.of {post : Int32 → ρ → Prop} (hy : plainName y.cls = true) (hw : wy = Cond.code y cc nL ret :: ws') (hlen : (lg_sl av).length ≤ nL)
    (body : ∀ (p : Program) (e : Env) (s : State) (m : MethodId) (args : Array Value) (below : List Frame) (meth : Method) (c : Code) (ls : Array Slot), gm_C p s m args meth c cc nL ret wy y.cls → gs_Z G (w r) (va_A (w r) s.heap.size) s s.heap [] → lv_has ls nL (lv_args 0 av) →
      W p l e rm s m args below meth c s.heap [] 0 0 (MQ below (va_Qi post (fun u t => gm_B G (w r) s.heap.size (w u) t) (va_A (w r) s.heap.size)) args s mc ms (va_A (w r) s.heap.size)) (F0 m 0 ls [])) : gm_i l y wy rm G w r av post mc ms := by
  intro sz
  refine Met.ofW (cc := cc) (maxL := nL) (ret := ret) hy hw ?_
  intro p e s m args below meth c s₁ B hml hv
  obtain ⟨rfl, hv⟩ := hv
  obtain ⟨rfl, hz⟩ := gs_entry hv
  have hts := atoms_spec (ws := wy) B.pre
  have hcode : (Cond.code y cc nL ret).before av.toArray s = true := hts _ (by rw [hw]; exact List.mem_cons_self)
  have ht : ∀ x ∈ c.exceptionTable.toList, False := fun x hx => by
    have h1 := B.noHandlers hcode
    simp at h1
    rw [h1] at hx
    simp at hx
  have hl := lv_entry av (n := nL) hlen
  rw [lg_entry_eq]
  exact body p e s m av.toArray below meth c _ ⟨⟨B.exec, B.bytes, hml, findClass_of_methodNamed B.named, hts⟩, B.returns, B.notSynchronized, ht⟩ hz hl
theorem gm_v.of {post : ρ → Prop} (hy : plainName y.cls = true) (hw : wy = Cond.code y cc nL ret :: ws') (hlen : (lg_sl av).length ≤ nL)
    (body : ∀ (p : Program) (e : Env) (s : State) (m : MethodId) (args : Array Value) (below : List Frame) (meth : Method) (c : Code) (ls : Array Slot), gm_C p s m args meth c cc nL ret wy y.cls → gs_Z G (w r) (va_A (w r) s.heap.size) s s.heap [] → lv_has ls nL (lv_args 0 av) →
      W p l e rm s m args below meth c s.heap [] 0 0 (MQ below (va_Qv post (fun u t => gm_B G (w r) s.heap.size (w u) t) (va_A (w r) s.heap.size)) args s mc ms (va_A (w r) s.heap.size)) (F0 m 0 ls [])) : gm_v l y wy rm G w r av post mc ms := by
  intro sz
  refine Met.ofW (cc := cc) (maxL := nL) (ret := ret) hy hw ?_
  intro p e s m args below meth c s₁ B hml hv
  obtain ⟨rfl, hv⟩ := hv
  obtain ⟨rfl, hz⟩ := gs_entry hv
  have hts := atoms_spec (ws := wy) B.pre
  have hcode : (Cond.code y cc nL ret).before av.toArray s = true := hts _ (by rw [hw]; exact List.mem_cons_self)
  have ht : ∀ x ∈ c.exceptionTable.toList, False := fun x hx => by
    have h1 := B.noHandlers hcode
    simp at h1
    rw [h1] at hx
    simp at hx
  have hl := lv_entry av (n := nL) hlen
  rw [lg_entry_eq]
  exact body p e s m av.toArray below meth c _ ⟨⟨B.exec, B.bytes, hml, findClass_of_methodNamed B.named, hts⟩, B.returns, B.notSynchronized, ht⟩ hz hl
end GM
section GS
variable {p : Program} {l : Launch} {e : Env} {R : Room} {s : State} {m : MethodId} {args : Array Value} {below : List Frame} {meth : Method} {c : Code} {H : Heap} {locs : List Loc} {cells slots : Nat} {Q : State → Prop}
variable {cc : ByteArray} {pc : Nat} {ls : Array Slot} {rest : List Value} {G : gs_G} {ws wr : va_W} {A : Nat → Prop} {a : Nat}
/-- the number on top is that one -/
theorem gs_eq {x y : Int32} (h : x = y) (k : W p l e R s m args below meth c H locs cells slots Q (F0 m pc ls (.int y :: rest))) : W p l e R s m args below meth c H locs cells slots Q (F0 m pc ls (.int x :: rest)) := by rw [h]; exact k
theorem gs_ld (hx : p.tables.exec = Jvm.exec) (hb : c.code = cc) (hz : gs_Z G ws A s H locs) (q0 : Nat) {cA : ClassId} {n : Nat} {f : Nat → Int32} (ha : ws[q0]? = some (a, .inl (cA, n, .inl f))) (ht : cA = G.2.1) {i : Int32} (k : Nat) (hk : k < n) (hn : n < 2 ^ 31) (hi : i = nI k) (hdg : decode cc pc = .ok (.iaload, 1))
    (kk : W p l e R s m args below meth c H locs cells slots Q (F0 m (pc + 1) ls (.int (f k) :: rest))) : W p l e R s m args below meth c H locs cells slots Q (F0 m pc ls (.int i :: .ref a :: rest)) := by
  subst hi
  subst ht
  refine va_iald hx hb hz.1 hz.2.1 q0 0 ha rfl (vp_in_nI hk hn) hdg ?_
  rw [nI_clamp (by omega)]
  exact kk
theorem gs_ldz (hx : p.tables.exec = Jvm.exec) (hb : c.code = cc) (hz : gs_Z G ws A s H locs) (q0 : Nat) {cA : ClassId} {n : Nat} {f : Nat → Int32} (ha : ws[q0]? = some (a, .inl (cA, n, .inl f))) (ht : cA = G.2.2.1) {i : Int32} (k : Nat) (hk : k < n) (hn : n < 2 ^ 31) (hi : i = nI k) (hdg : decode cc pc = .ok (.baload, 1))
    (kk : W p l e R s m args below meth c H locs cells slots Q (F0 m (pc + 1) ls (.int (f k) :: rest))) : W p l e R s m args below meth c H locs cells slots Q (F0 m pc ls (.int i :: .ref a :: rest)) := by
  subst hi
  subst ht
  refine va_zald hx hb hz.1 hz.2.1 q0 1 ha rfl (vp_in_nI hk hn) hdg ?_
  rw [nI_clamp (by omega)]
  exact kk
theorem gs_st (hx : p.tables.exec = Jvm.exec) (hb : c.code = cc) (hz : gs_Z G ws A s H locs) (q0 : Nat) {cA : ClassId} {n : Nat} {f : Nat → Int32} (ha : ws[q0]? = some (a, .inl (cA, n, .inl f))) (ht : cA = G.2.1) {i x : Int32} (k : Nat) (hk : k < n) (hn : n < 2 ^ 31) (hi : i = nI k) (hdg : decode cc pc = .ok (.iastore, 1))
    (kk : ∀ (H1 : Heap) (locs1 : List Loc), gs_Z G (ws.set q0 (a, .inl (cA, n, .inl (upd f k x)))) A s H1 locs1 → W p l e R s m args below meth c H1 locs1 cells slots Q (F0 m (pc + 1) ls rest)) : W p l e R s m args below meth c H locs cells slots Q (F0 m pc ls (.int x :: .int i :: .ref a :: rest)) := by
  subst hi
  subst ht
  refine va_iast hx hb hz.1 hz.2.1 hz.2.2.1 hz.2.2.2.1 q0 0 ha rfl (vp_in_nI hk hn) hdg (fun H1 locs1 h1 h2 h3 => ?_)
  rw [nI_clamp (by omega)] at h1 h2
  exact kk H1 locs1 ⟨hz.1, h1, h2, h3, hz.2.2.2.2⟩
theorem gs_stz (hx : p.tables.exec = Jvm.exec) (hb : c.code = cc) (hz : gs_Z G ws A s H locs) (q0 : Nat) {cA : ClassId} {n : Nat} {f : Nat → Int32} (ha : ws[q0]? = some (a, .inl (cA, n, .inl f))) (ht : cA = G.2.2.1) {i x : Int32} (k : Nat) (hk : k < n) (hn : n < 2 ^ 31) (hi : i = nI k) (hv : vp_nar .boolean x = x) (hdg : decode cc pc = .ok (.bastore, 1))
    (kk : ∀ (H1 : Heap) (locs1 : List Loc), gs_Z G (ws.set q0 (a, .inl (cA, n, .inl (upd f k x)))) A s H1 locs1 → W p l e R s m args below meth c H1 locs1 cells slots Q (F0 m (pc + 1) ls rest)) : W p l e R s m args below meth c H locs cells slots Q (F0 m pc ls (.int x :: .int i :: .ref a :: rest)) := by
  subst hi
  subst ht
  refine va_zast hx hb hz.1 hz.2.1 hz.2.2.1 hz.2.2.2.1 q0 1 ha rfl (vp_in_nI hk hn) hdg (fun H1 locs1 h1 h2 h3 => ?_)
  rw [nI_clamp (by omega), hv] at h1 h2
  exact kk H1 locs1 ⟨hz.1, h1, h2, h3, hz.2.2.2.2⟩
/-- a field read, a field of ints written -/
theorem gs_get (hx : p.tables.exec = Jvm.exec) (hb : c.code = cc) {own ref C : String} {T : u_T} {N ci index : Nat} {Ts : List Cond} (hts : ∀ w ∈ Ts, w.before args s = true) (hin : ∀ w ∈ u_ws C T N, w ∈ Ts) (hown : s.vm.findClass own = some m.cls) (hz : gs_Z G ws A s H locs) (q0 : Nat) {fs : List Value} (he : ws[q0]? = some (a, .inr (ci, fs))) (hc : xcl[ci]? = some (C, T, N)) (k : Nat) (hk : k < N) (href : ref = (T k).1) (hlink : (Cond.fieldLink own index ref (T k).2.1 (T k).2.2.1).before args s = true) {v : Value} (hv : fs[k]? = some v) (hdg : decode cc pc = .ok (.getfield index, 3))
    (kk : W p l e R s m args below meth c H locs cells slots Q (F0 m (pc + 3) ls (v :: rest))) : W p l e R s m args below meth c H locs cells slots Q (F0 m pc ls (.ref a :: rest)) := by
  subst href
  exact va_get hx hb hts hin hown hz.1 hz.2.1 q0 he hc k hk hlink (fun _ h9 => h9) hv hdg kk
theorem gs_put (hx : p.tables.exec = Jvm.exec) (hb : c.code = cc) {own ref C : String} {T : u_T} {N ci index : Nat} {Ts : List Cond} (hts : ∀ w ∈ Ts, w.before args s = true) (hin : ∀ w ∈ u_ws C T N, w ∈ Ts) (ty0 : Nat → FieldType) (hty : ∀ k, k < N → parseFieldDescriptor (T k).2.2.1 = some (ty0 k)) (hnm : ∀ a, a < N → ∀ b, b < N → a ≠ b → (T a).2.1 ≠ (T b).2.1) (hown : s.vm.findClass own = some m.cls) (hz : gs_Z G ws A s H locs) (q0 : Nat) {fs : List Value} (he : ws[q0]? = some (a, .inr (ci, fs))) (hc : xcl[ci]? = some (C, T, N)) (k : Nat) (hk : k < N) (href : ref = (T k).1) (hlink : (Cond.fieldLink own index ref (T k).2.1 (T k).2.2.1).before args s = true) (hfin : (T k).2.2.2 = false) (hd : parseFieldDescriptor (T k).2.2.1 = some .int) {x : Int32} (hl : k < fs.length) (hdg : decode cc pc = .ok (.putfield index, 3))
    (kk : ∀ (H1 : Heap) (locs1 : List Loc), gs_Z G (ws.set q0 (a, .inr (ci, fs.set k (.int x)))) A s H1 locs1 → W p l e R s m args below meth c H1 locs1 cells slots Q (F0 m (pc + 3) ls rest)) : W p l e R s m args below meth c H locs cells slots Q (F0 m pc ls (.int x :: .ref a :: rest)) := by
  subst href
  refine va_put (ty := .int) (v := .int x) hx hb hts hin ty0 hty hnm hown hz.1 hz.2.1 hz.2.2.1 hz.2.2.2.1 q0 he hc k hk hlink (fun _ h9 => h9) hfin hd rfl rfl hl hdg (fun H1 locs1 h1 h2 h3 => ?_)
  exact kk H1 locs1 ⟨hz.1, h1, h2, h3, hz.2.2.2.2⟩
/-- the ends -/
theorem gs_reti {ρ : Type} {w : ρ → va_W} {ws0 : va_W} {post : Int32 → ρ → Prop} {nL mc ms : Nat} {wy : List Cond} {own : String} {v : Int32} (u : ρ) (C0 : gm_C p s m args meth c cc nL (some .int) wy own) (hz : gs_Z G (w u) (va_A ws0 s.heap.size) s H locs) (hp : post v u) (hc : cells ≤ mc) (hs : slots ≤ ms) (hdg : decode cc pc = .ok (.ireturn, 1)) :
    W p l e R s m args below meth c H locs cells slots (MQ below (va_Qi post (fun u t => gm_B G ws0 s.heap.size (w u) t) (va_A ws0 s.heap.size)) args s mc ms (va_A ws0 s.heap.size)) (F0 m pc ls [.int v]) := by
  refine W.widen hc hs ?_
  obtain ⟨⟨hx, hb, -, -, -⟩, hr, hlocks, -⟩ := C0
  exact W.iret (v := v) hx hb hr (fun t ht hW => ⟨⟨v, u, rfl, hp, by rw [ht]; exact hz.2.1, va_K.moved hW.alike hz.1, hz.2.2.1⟩, hz.2.2.2.1.F ht⟩) hz.2.2.2.1.2.2 hdg hlocks
theorem gs_retz {ρ : Type} {w : ρ → va_W} {ws0 : va_W} {post : Int32 → ρ → Prop} {nL mc ms : Nat} {wy : List Cond} {own : String} {v : Int32} (u : ρ) (C0 : gm_C p s m args meth c cc nL (some .boolean) wy own) (hz : gs_Z G (w u) (va_A ws0 s.heap.size) s H locs) (hn : vp_nar .boolean v = v) (hp : post v u) (hc : cells ≤ mc) (hs : slots ≤ ms) (hdg : decode cc pc = .ok (.ireturn, 1)) :
    W p l e R s m args below meth c H locs cells slots (MQ below (va_Qi post (fun u t => gm_B G ws0 s.heap.size (w u) t) (va_A ws0 s.heap.size)) args s mc ms (va_A ws0 s.heap.size)) (F0 m pc ls [.int v]) := by
  refine W.widen hc hs ?_
  obtain ⟨⟨hx, hb, -, -, -⟩, hr, hlocks, -⟩ := C0
  have hn2 : narrow .boolean (.int v) = .int v := congrArg Value.int hn
  exact W.zret (v := v) (ty := .boolean) hx hb hr hn2 (fun t ht hW => ⟨⟨v, u, rfl, hp, by rw [ht]; exact hz.2.1, va_K.moved hW.alike hz.1, hz.2.2.1⟩, hz.2.2.2.1.F ht⟩) hz.2.2.2.1.2.2 hdg hlocks
theorem gs_retv {ρ : Type} {w : ρ → va_W} {ws0 : va_W} {post : ρ → Prop} {nL mc ms : Nat} {wy : List Cond} {own : String} (u : ρ) (C0 : gm_C p s m args meth c cc nL none wy own) (hz : gs_Z G (w u) (va_A ws0 s.heap.size) s H locs) (hp : post u) (hc : cells ≤ mc) (hs : slots ≤ ms) (hdg : decode cc pc = .ok (.return_, 1)) :
    W p l e R s m args below meth c H locs cells slots (MQ below (va_Qv post (fun u t => gm_B G ws0 s.heap.size (w u) t) (va_A ws0 s.heap.size)) args s mc ms (va_A ws0 s.heap.size)) (F0 m pc ls []) := by
  refine W.widen hc hs ?_
  obtain ⟨⟨hx, hb, -, -, -⟩, hr, hlocks, -⟩ := C0
  exact W.vret hx hb hr (fun t ht hW => ⟨⟨u, rfl, hp, by rw [ht]; exact hz.2.1, va_K.moved hW.alike hz.1, hz.2.2.1⟩, hz.2.2.2.1.F ht⟩) hz.2.2.2.1.2.2 hdg hlocks
/-- a callee's cells ahead, the rest behind: what a call needs of them, and what comes back -/
theorem gs_P1 (hz : gs_Z G (ws ++ wr) A s H locs) : va_P G.1 xcl ws H := fun k q h => hz.2.1 k q (by rw [List.getElem?_append_left (List.getElem?_eq_some_iff.mp h).1]; exact h)
theorem gs_D1 (hz : gs_Z G (ws ++ wr) A s H locs) : va_D A ws := ⟨fun i j x y hi hj h => hz.2.2.1.1 i j x y (by rw [List.getElem?_append_left (List.getElem?_eq_some_iff.mp hi).1]; exact hi) (by rw [List.getElem?_append_left (List.getElem?_eq_some_iff.mp hj).1]; exact hj) h, fun k q h => hz.2.2.1.2 k q (by rw [List.getElem?_append_left (List.getElem?_eq_some_iff.mp h).1]; exact h)⟩
theorem gs_F1 (hz : gs_Z G (ws ++ wr) A s H locs) : ∀ q, va_A ws H.size q → A q := fun q h => by
  rcases h with ⟨k, e, h⟩ | h
  · exact (gs_D1 hz).2 k (q, e) h
  · exact hz.2.2.2.2 q (Nat.le_trans hz.2.2.2.1.1 h)
theorem gs_back (hz : gs_Z G (ws ++ wr) A s H locs) {w1 : va_W} {H1 : Heap} {locs1 : List Loc} (hk : ∀ q : Nat, q < H.size → ¬ va_A ws H.size q → H1[q]? = H[q]?) (hP1 : va_P G.1 xcl w1 H1) (hD1 : va_D (va_A ws H.size) w1) (hS : va_S A s.heap H1 locs1) : gs_Z G (w1 ++ wr) A s H1 locs1 := by
  have apart : ∀ (k : Nat) (q : Nat × va_E), wr[k]? = some q → q.1 < H.size ∧ ¬ va_A ws H.size q.1 := by
    intro k q hq
    have h2 : (ws ++ wr)[ws.length + k]? = some q := by rw [List.getElem?_append_right (Nat.le_add_right _ _), Nat.add_sub_cancel_left]; exact hq
    have hl := (hz.2.1 _ q h2).lt
    refine ⟨hl, fun h => ?_⟩
    rcases h with ⟨k2, e2, h⟩ | h
    · have hk2 := (List.getElem?_eq_some_iff.mp h).1
      have h3 : (ws ++ wr)[k2]? = some (q.1, e2) := by rw [List.getElem?_append_left hk2]; exact h
      have := hz.2.2.1.1 _ _ _ _ h3 h2 rfl
      omega
    · omega
  refine ⟨hz.1, va_P.app hP1 (fun k q hq => ?_), va_D.app (hD1.weaken (fun k q _ h => gs_F1 hz q.1 h)) ⟨fun i j x y hi hj h => ?_, fun k q hq => ?_⟩ (fun i j x y hx hy hxy => ?_), hS, hz.2.2.2.2⟩
  · have h2 : (ws ++ wr)[ws.length + k]? = some q := by rw [List.getElem?_append_right (Nat.le_add_right _ _), Nat.add_sub_cancel_left]; exact hq
    obtain ⟨g1, g2⟩ := apart k q hq
    exact (hz.2.1 _ q h2).kept (hk q.1 g1 g2)
  · have h2 : (ws ++ wr)[ws.length + i]? = some x := by rw [List.getElem?_append_right (Nat.le_add_right _ _), Nat.add_sub_cancel_left]; exact hi
    have h3 : (ws ++ wr)[ws.length + j]? = some y := by rw [List.getElem?_append_right (Nat.le_add_right _ _), Nat.add_sub_cancel_left]; exact hj
    have := hz.2.2.1.1 _ _ _ _ h2 h3 h
    omega
  · have h2 : (ws ++ wr)[ws.length + k]? = some q := by rw [List.getElem?_append_right (Nat.le_add_right _ _), Nat.add_sub_cancel_left]; exact hq
    exact hz.2.2.1.2 _ q h2
  · exact (apart j y hy).2 (by rw [← hxy]; exact hD1.2 i x hx)
theorem gs_nil (hz : gs_Z G ws A s H locs) : gs_Z G (ws ++ []) A s H locs := by rw [List.append_nil]; exact hz
theorem gs_unnil (hz : gs_Z G (ws ++ []) A s H locs) : gs_Z G ws A s H locs := by rw [List.append_nil] at hz; exact hz
theorem gs_pre (hz : gs_Z G (ws ++ wr) A s H locs) {av : List Value} : ∀ U : State, U.heap = H → s.WarmedH U.vm → va_Pc av (gm_P G ws H.size) av.toArray U := fun U hU hW => ⟨rfl, by rw [hU], by rw [hU]; exact gs_P1 hz, va_K.moved hW.alike hz.1, (gs_D1 hz).weaken (fun _ _ _ _ => trivial)⟩
section CALLS
variable {ρ : Type} {w : ρ → va_W} {r : ρ} {y : MethodName} {bytes : ByteArray} {maxL nL mc ms n index : Nat} {ret : Option FieldType} {wy Ts : List Cond} {rm : Room} {own C : String} {b : Nat} {As st0 : List Value}
theorem gs_callVi {post : Int32 → ρ → Prop} (S : CallFix p m c cc nL s args Ts own) (hM : gm_i l y wy rm G w r (.ref b :: As) post mc ms) (cw : CallW R s args own C index y bytes maxL ret wy rm mc ms n) {ci : Nat} {fs : List Value} {q : vw_C} (he : (w r)[0]? = some (b, .inr (ci, fs))) (hc : xcl[ci]? = some q) (hq : q.1 = C)
    (hz : gs_Z G (w r ++ wr) A s H locs) (hn : As.length = n) (hsize : ls.size = nL) (hst : st0 = As.reverse ++ .ref b :: rest) (hW : (rest.map fun v => v.category).sum ≤ 8) (hdg : decode cc pc = .ok (.invokevirtual index, 3)) (hf : cells + mc ≤ R.cells ∧ slots + ms ≤ R.slots)
    (kk : ∀ (res : Int32) (u : ρ) (H1 : Heap) (locs1 : List Loc), post res u → gs_Z G (w u ++ wr) A s H1 locs1 → W p l e R s m args below meth c H1 locs1 (cells + mc) (slots + ms) Q (F0 m (pc + 3) ls (.int res :: rest))) : W p l e R s m args below meth c H locs cells slots Q (F0 m pc ls st0) := by
  have hrecv := va_recv hz.1 (gs_P1 hz) hc he
  rw [hq] at hrecv
  refine va_calli (va_runV (As := As) (rest := rest) S (hM H.size) cw ⟨gm_blind, hrecv, gs_pre hz⟩ rfl hn hsize hst (lv_room hW) hdg hf) hz.2.2.2.1 (fun q _ h => gs_F1 hz q h) (gs_F1 hz) (fun res u t H1 locs1 ht hvm hw hB hz1 hk1 hS => ?_)
  obtain ⟨hP1, hK1, hD1⟩ := hB
  rw [ht] at hP1
  exact kk res u H1 locs1 hw (gs_back hz hk1 hP1 hD1 hS)
theorem gs_callVv {post : ρ → Prop} (S : CallFix p m c cc nL s args Ts own) (hM : gm_v l y wy rm G w r (.ref b :: As) post mc ms) (cw : CallW R s args own C index y bytes maxL ret wy rm mc ms n) {ci : Nat} {fs : List Value} {q : vw_C} (he : (w r)[0]? = some (b, .inr (ci, fs))) (hc : xcl[ci]? = some q) (hq : q.1 = C)
    (hz : gs_Z G (w r ++ wr) A s H locs) (hn : As.length = n) (hsize : ls.size = nL) (hst : st0 = As.reverse ++ .ref b :: rest) (hW : (rest.map fun v => v.category).sum ≤ 8) (hdg : decode cc pc = .ok (.invokevirtual index, 3)) (hf : cells + mc ≤ R.cells ∧ slots + ms ≤ R.slots)
    (kk : ∀ (u : ρ) (H1 : Heap) (locs1 : List Loc), post u → gs_Z G (w u ++ wr) A s H1 locs1 → W p l e R s m args below meth c H1 locs1 (cells + mc) (slots + ms) Q (F0 m (pc + 3) ls rest)) : W p l e R s m args below meth c H locs cells slots Q (F0 m pc ls st0) := by
  have hrecv := va_recv hz.1 (gs_P1 hz) hc he
  rw [hq] at hrecv
  refine va_callv (va_runV (As := As) (rest := rest) S (hM H.size) cw ⟨gm_blind, hrecv, gs_pre hz⟩ rfl hn hsize hst (lv_room hW) hdg hf) hz.2.2.2.1 (fun q _ h => gs_F1 hz q h) (gs_F1 hz) (fun u t H1 locs1 ht hvm hw hB hz1 hk1 hS => ?_)
  obtain ⟨hP1, hK1, hD1⟩ := hB
  rw [ht] at hP1
  exact kk u H1 locs1 hw (gs_back hz hk1 hP1 hD1 hS)
end CALLS
end GS
