/-! THE LAW'S HELPERS: what they stand on -/
theorem sp_1 (S : hs_S) {N : Nat} (h : 1 ≤ N) : (1, (0 : Int32), S).1 ≤ N ∧ ((1, (0 : Int32), S).1 ≠ 0 → (1, (0 : Int32), S).2.2 = S) := ⟨h, fun _ => rfl⟩
/-- at most the N-th throw; a call that throws changes nothing -/
def gd (S : hs_S) (N : Nat) (t : sp_T) : Prop := t.1 ≤ N ∧ (t.1 ≠ 0 → t.2.2 = S)
/-- a truth value, where it returns -/
def bl (t : sp_T) : Prop := t.1 = 0 → (t.2.1 = 0 ∨ t.2.1 = 1)
theorem gd_0 {S T : hs_S} {N : Nat} {v : Int32} : gd S N (0, v, T) := ⟨Nat.zero_le _, fun z => absurd rfl z⟩
theorem gd_k {S : hs_S} {N k : Nat} {v : Int32} (h : k ≤ N) : gd S N (k, v, S) := ⟨h, fun _ => rfl⟩
theorem gd_use {S : hs_S} {N : Nat} (h1 : 1 ≤ N) {x : Int32} {f : Nat → sp_T} (h : ∀ k, gd S N (f k)) : gd S N (sp_use S x f) := by
  unfold sp_use
  cases nd 0 47 x with
  | none => exact gd_k h1
  | some k =>
    dsimp only
    by_cases q : hs_u S k = 0
    · rw [if_pos q]; exact gd_k h1
    · rw [if_neg q]; exact h k
theorem gd_has {S : hs_S} {N : Nat} (h1 : 2 ≤ N) {x : Int32} {f : Nat → sp_T} (h : ∀ k, gd S N (f k)) : gd S N (sp_has S x f) := by
  unfold sp_has
  refine gd_use (by omega) (fun k => ?_)
  by_cases q : hs_u S k = 1
  · rw [if_pos q]; exact gd_k h1
  · rw [if_neg q]; exact h k
theorem gd_if {S : hs_S} {N : Nat} {c : Prop} [Decidable c] {t1 t2 : sp_T} (h1 : gd S N t1) (h2 : gd S N t2) : gd S N (if c then t1 else t2) := by
  by_cases q : c
  · rw [if_pos q]; exact h1
  · rw [if_neg q]; exact h2
theorem gd_mk {S : hs_S} {N h n : Nat} {fx : Bool} {a b : Int32} : gd S N (sp_mk S h n fx a b) := by
  unfold sp_mk
  cases (hs_room S n 48).2 <;> exact gd_0
theorem gd_gr {S : hs_S} {N h n : Nat} : gd S N (sp_gr S h n) := by
  unfold sp_gr
  cases (hs_room S n h).2 <;> exact gd_0
theorem gd_ask {S : hs_S} {x : Int32} {fx : Bool} : gd S 1 (sp_ask S x fx) := by
  unfold sp_ask
  cases nd 1 1024 x with
  | none => exact gd_k (Nat.le_refl _)
  | some n =>
    dsimp only
    cases hs_lu (hs_u S) 0 48 with
    | none => exact gd_0
    | some h => exact gd_mk
theorem gd_drop {S : hs_S} {x : Int32} : gd S 1 (sp_drop S x) := gd_use (Nat.le_refl _) (fun _ => gd_0)
theorem gd_resize {S : hs_S} {x y : Int32} : gd S 1 (sp_resize S x y) := by
  refine gd_use (Nat.le_refl _) (fun h => ?_)
  cases nd 1 1024 y with
  | none => exact gd_k (Nat.le_refl _)
  | some n => exact gd_if gd_mk (gd_if gd_0 (gd_if gd_gr gd_0))
theorem gd_lock {S : hs_S} {x : Int32} {v : Bool} : gd S 2 (sp_lock S x v) := gd_has (Nat.le_refl _) (fun _ => gd_0)
theorem gd_losable {S : hs_S} {x : Int32} {v : Bool} : gd S 2 (sp_losable S x v) := gd_has (Nat.le_refl _) (fun _ => gd_0)
theorem gd_lose {S : hs_S} {x : Int32} : gd S 2 (sp_lose S x) := gd_has (Nat.le_refl _) (fun _ => gd_if gd_0 gd_0)
theorem gd_lift {S : hs_S} {x : Int32} : gd S 2 (sp_lift S x) := gd_has (Nat.le_refl _) (fun _ => gd_if gd_0 (gd_k (Nat.le_refl _)))
theorem gd_clear {S : hs_S} {x : Int32} : gd S 1 (sp_clear S x) := by
  unfold sp_clear
  cases nd 0 1024 x with
  | none => exact gd_k (Nat.le_refl _)
  | some n => exact gd_0
theorem gd_where {S : hs_S} {x : Int32} : gd S 1 (sp_where S x) := by
  unfold sp_where
  cases nd 0 47 x with
  | none => exact gd_k (Nat.le_refl _)
  | some n => exact gd_0
theorem gd_size {S : hs_S} {x : Int32} : gd S 1 (sp_size S x) := by
  unfold sp_size
  cases nd 0 47 x with
  | none => exact gd_k (Nat.le_refl _)
  | some n => exact gd_0
theorem gd_put {S : hs_S} {x i v : Int32} : gd S 3 (sp_put S x i v) := by
  unfold sp_put
  cases nd 0 255 v with
  | none => exact gd_k (by decide)
  | some n => exact gd_has (by decide) (fun _ => gd_if gd_0 (gd_k (Nat.le_refl _)))
theorem gd_get {S : hs_S} {x i : Int32} : gd S 3 (sp_get S x i) := gd_has (by decide) (fun _ => gd_if gd_0 (gd_k (Nat.le_refl _)))
theorem gd_owner {S : hs_S} {x : Int32} : gd S 1 (sp_owner S x) := by
  unfold sp_owner
  cases nd 0 1023 x with
  | none => exact gd_k (Nat.le_refl _)
  | some n => exact gd_0
theorem gd_told {S : hs_S} {x : Int32} : gd S 1 (sp_told S x) := by
  rcases nd_cases 0 6 x (by decide) (by decide) with ⟨k, -, hk, rfl, -⟩ | ⟨-, hno⟩
  · rcases (show k = 0 ∨ k = 1 ∨ k = 2 ∨ k = 3 ∨ k = 4 ∨ k = 5 ∨ k = 6 by omega) with rfl | rfl | rfl | rfl | rfl | rfl | rfl
    · exact gd_0
    · exact gd_0
    · exact gd_0
    · exact gd_0
    · exact gd_0
    · exact gd_0
    · exact gd_0
  · rw [sp_told_x hno]; exact gd_k (Nat.le_refl _)
theorem bl_k {k : Nat} {v : Int32} {S : hs_S} (h : k ≠ 0) : bl (k, v, S) := fun z => absurd z h
theorem bl_0 {S : hs_S} : bl (0, nI 0, S) := fun _ => Or.inl rfl
theorem bl_1 {S : hs_S} : bl (0, nI 1, S) := fun _ => Or.inr rfl
theorem bl_b {S : hs_S} {b : Bool} : bl (0, bI b, S) := fun _ => by cases b; exact Or.inl rfl; exact Or.inr rfl
theorem bl_if {c : Prop} [Decidable c] {t1 t2 : sp_T} (h1 : bl t1) (h2 : bl t2) : bl (if c then t1 else t2) := by
  by_cases q : c
  · rw [if_pos q]; exact h1
  · rw [if_neg q]; exact h2
theorem bl_use {S : hs_S} {x : Int32} {f : Nat → sp_T} (h : ∀ k, bl (f k)) : bl (sp_use S x f) := by
  unfold sp_use
  cases nd 0 47 x with
  | none => exact bl_k (by decide)
  | some k => exact bl_if (bl_k (by decide)) (h k)
theorem bl_has {S : hs_S} {x : Int32} {f : Nat → sp_T} (h : ∀ k, bl (f k)) : bl (sp_has S x f) := bl_use (fun k => bl_if (bl_k (by decide)) (h k))
theorem bl_resize {S : hs_S} {x y : Int32} : bl (sp_resize S x y) := by
  refine bl_use (fun h => ?_)
  cases nd 1 1024 y with
  | none => exact bl_k (by decide)
  | some n =>
    refine bl_if ?_ (bl_if bl_1 (bl_if ?_ bl_0))
    · unfold sp_mk
      cases (hs_room S n 48).2
      · exact bl_0
      · exact bl_1
    · unfold sp_gr
      cases (hs_room S n h).2
      · exact bl_0
      · exact bl_1
theorem bl_lock {S : hs_S} {x : Int32} {v : Bool} : bl (sp_lock S x v) := bl_has (fun _ => bl_b)
theorem bl_losable {S : hs_S} {x : Int32} {v : Bool} : bl (sp_losable S x v) := bl_has (fun _ => bl_b)
theorem bl_lose {S : hs_S} {x : Int32} : bl (sp_lose S x) := bl_has (fun _ => bl_if bl_1 bl_0)
theorem ex_1 {S : hs_S} {t : sp_T} {E : String} (h : t.1 ≠ 0 ∧ ex t.1 E) (hg : gd S 1 t) : t.1 = 1 ∧ E = xIA := by
  have h1 := hg.1
  rcases h.2 with z | z | z
  · exact z
  · omega
  · omega
theorem ex_2 {S : hs_S} {t : sp_T} {E : String} (h : t.1 ≠ 0 ∧ ex t.1 E) (hg : gd S 2 t) : (t.1 = 1 ∧ E = xIA) ∨ (t.1 = 2 ∧ E = xIS) := by
  have h1 := hg.1
  rcases h.2 with z | z | z
  · exact Or.inl z
  · exact Or.inr z
  · omega
/-- what a helper leaves: the throw's number, or 0 and the answer in out[0] -/
def hq (t : sp_T) (res : Int32) (u : xr × (Nat → Int64)) : Prop := res = nI t.1 ∧ (t.1 = 0 → u.2 0 = t.2.1.toInt64) ∧ rx t.2.2 u.1
theorem hq_x {S : hs_S} {N k : Nat} {t : sp_T} {u : xr × (Nat → Int64)} (hg : gd S N t) (hk : t.1 = k) (hk0 : k ≠ 0) (hu : rx S u.1) : hq t (nI k) u := by
  have h2 := hg.2 (by omega)
  exact ⟨by rw [hk], fun z => by omega, by rw [h2]; exact hu⟩
theorem hq_0 {t : sp_T} {res : Int32} {v : Int64} {u : xr} {f : Nat → Int64} (h : px t res u) (hv : v = t.2.1.toInt64) : hq t (nI 0) (u, vp_updL f 0 v) := by
  refine ⟨by rw [h.1], fun _ => ?_, h.2.2⟩
  rw [← hv]
  show (if (0 : Nat) = 0 then v else f 0) = v
  exact if_pos rfl
/-- the three are not each other's kind -/
def xn (U : State) : Prop := va_Nc xIS xIA U ∧ va_Nc xIO xIA U ∧ va_Nc xIO xIS U
theorem xn.moved {u U : State} (hvm : u.vm.Alike U.vm) (h : xn u) : xn U := ⟨h.1.moved hvm, h.2.1.moved hvm, h.2.2.moved hvm⟩
def hw (G : gs_G) (q : Nat → Nat) (qo : Nat) (r : xr × (Nat → Int64)) : va_W := xw G q r.1 ++ [(qo, .inl (G.2.2.2, 1, .inr (.inl r.2)))]
def gh_P (G : gs_G) (ws : va_W) (sz : Nat) (U : State) : Prop := gx_P G ws sz U ∧ xn U
def gh_i {ρ : Type} (l : Launch) (y : MethodName) (wy : List Cond) (rm : Room) (G : gs_G) (w : ρ → va_W) (r : ρ) (av : List Value) (post : Int32 → ρ → Prop) (mc ms : Nat) : Prop :=
  ∀ sz : Nat, vx_Met l y wy rm (va_Pc av (gh_P G (w r) sz)) (va_Qi post (fun u t => gm_B G (w r) sz (w u) t) (va_A (w r) sz)) (gx_X G (w r) (fun _ => False) sz) mc ms (va_A (w r) sz)
theorem gh_blind {G : gs_G} {ws : va_W} {av : List Value} {sz : Nat} : FrameBlind (va_Pc av (gh_P G ws sz)) := fun a U g mk q => by
  obtain ⟨q0, q1, q2⟩ := q
  obtain ⟨-, q3⟩ := gx_blind (G := G) (ws := ws) (av := av) (sz := sz) a U g mk ⟨q0, q1⟩
  exact ⟨q0, q3, xn.moved (u := U) (U := U.calling g mk a) (Vm.Alike.refl U.vm) q2⟩
def gh_C (p : Program) (s : State) (m : MethodId) (args : Array Value) (meth : Method) (c : Code) (cc : ByteArray) (nL : Nat) (ret : Option FieldType) (wy : List Cond) (own : String) (hh : List (Nat × Nat × Nat × Nat)) : Prop :=
  CallFix p m c cc nL s args wy own ∧ meth.sig.returnType = ret ∧ meth.locks = false ∧ c.exceptionTable.toList = tableOf hh
theorem gh_i.of {ρ : Type} {l : Launch} {y : MethodName} {wy ws' : List Cond} {rm : Room} {G : gs_G} {w : ρ → va_W} {r : ρ} {av : List Value} {mc ms : Nat} {cc : ByteArray} {nL : Nat} {ret : Option FieldType} {hh : List (Nat × Nat × Nat × Nat)} {post : Int32 → ρ → Prop} (hy : plainName y.cls = true) (hw : wy = Cond.codeWith y cc nL ret hh :: ws') (hlen : (lg_sl av).length ≤ nL)
    (body : ∀ (p : Program) (e : Env) (s : State) (m : MethodId) (args : Array Value) (below : List Frame) (meth : Method) (c : Code) (ls : Array Slot), gh_C p s m args meth c cc nL ret wy y.cls hh → gs_Z G (w r) (va_A (w r) s.heap.size) s s.heap [] → xz (va_A (w r) s.heap.size) s s.heap → xn s → lv_has ls nL (lv_args 0 av) →
      W p l e rm s m args below meth c s.heap [] 0 0 (vx_MQ below (va_Qi post (fun u t => gm_B G (w r) s.heap.size (w u) t) (va_A (w r) s.heap.size)) (gx_X G (w r) (fun _ => False) s.heap.size) args s mc ms (va_A (w r) s.heap.size)) (F0 m 0 ls [])) : gh_i l y wy rm G w r av post mc ms := by
  intro sz
  refine vx_ofWH (cc := cc) (maxL := nL) (ret := ret) (hh := hh) hy hw ?_
  intro p e s m args below meth c s₁ B hml hv
  obtain ⟨rfl, ⟨hv, hxz⟩, hxn⟩ := hv
  obtain ⟨rfl, hz⟩ := gs_entry hv
  have hts := atoms_spec (ws := wy) B.pre
  have ht := vx_table (x := y) B (hts _ (by rw [hw]; exact List.mem_cons_self))
  have hl := lv_entry av (n := nL) hlen
  rw [lg_entry_eq]
  exact body p e s m av.toArray below meth c _ ⟨⟨B.exec, B.bytes, hml, findClass_of_methodNamed B.named, hts⟩, B.returns, B.notSynchronized, ht⟩ hz hxz hxn hl
section GH
variable {p : Program} {l : Launch} {e : Env} {R : Room} {s : State} {m : MethodId} {args : Array Value} {below : List Frame} {meth : Method} {c : Code} {H : Heap} {locs : List Loc} {cells slots : Nat} {Q : State → Prop}
variable {cc : ByteArray} {pc : Nat} {ls : Array Slot} {rest : List Value} {G : gs_G} {ws wr : va_W} {A : Nat → Prop} {a : Nat}
theorem gh_reti {ρ : Type} {w : ρ → va_W} {ws0 : va_W} {post : Int32 → ρ → Prop} {XC : String → State → State → Prop} {nL mc ms : Nat} {wy : List Cond} {own : String} {hh : List (Nat × Nat × Nat × Nat)} {v : Int32} (u : ρ) (C0 : gh_C p s m args meth c cc nL (some .int) wy own hh) (hz : gs_Z G (w u) (va_A ws0 s.heap.size) s H locs) (hp : post v u) (hc : cells ≤ mc) (hs : slots ≤ ms) (hdg : decode cc pc = .ok (.ireturn, 1)) :
    W p l e R s m args below meth c H locs cells slots (vx_MQ below (va_Qi post (fun u t => gm_B G ws0 s.heap.size (w u) t) (va_A ws0 s.heap.size)) XC args s mc ms (va_A ws0 s.heap.size)) (F0 m pc ls [.int v]) := by
  refine vx_ret (W.widen hc hs ?_)
  obtain ⟨⟨hx, hb, -, -, -⟩, hr, hlocks, -⟩ := C0
  exact W.iret (v := v) hx hb hr (fun t ht hW => ⟨⟨v, u, rfl, hp, by rw [ht]; exact hz.2.1, va_K.moved hW.alike hz.1, hz.2.2.1⟩, hz.2.2.2.1.F ht⟩) hz.2.2.2.1.2.2 hdg hlocks
theorem gh_last (hx : p.tables.exec = Jvm.exec) (hb : c.code = cc) {q : Nat → Nat} {qo : Nat} {r : xr} {f : Nat → Int64} {v : Int64} (hz : gs_Z G (xw G q r ++ [(qo, .inl (G.2.2.2, 1, .inr (.inl f)))]) A s H locs) (hdg : decode cc pc = .ok (.lastore, 1))
    (kk : ∀ (H1 : Heap) (locs1 : List Loc), gs_Z G (hw G q qo (r, vp_updL f 0 v)) A s H1 locs1 → W p l e R s m args below meth c H1 locs1 cells slots Q (F0 m (pc + 1) ls rest)) : W p l e R s m args below meth c H locs cells slots Q (F0 m pc ls (.long v :: .int (nI 0) :: .ref qo :: rest)) := by
  refine va_last hx hb hz.1 hz.2.1 hz.2.2.1 hz.2.2.2.1 8 2 (cA := G.2.2.2) (n := 1) (f := f) rfl rfl (vp_in_nI (by decide) (by decide)) hdg (fun H1 locs1 h1 h2 h3 => ?_)
  rw [nI_clamp (by decide)] at h1 h2
  exact kk H1 locs1 ⟨hz.1, h1, h2, h3, hz.2.2.2.2⟩
/-- caught: by the first, the second, the third row -/
theorem gh_catch {own E : String} {nL : Nat} {ret : Option FieldType} {wy : List Cond} {hh : List (Nat × Nat × Nat × Nat)} {ce : Cell} {q9 : Addr} (C0 : gh_C p s m args meth c cc nL ret wy own hh) (hxz : xz A s s.heap) (hE : Cond.castable E E ∈ xz_W) (ahead : List ExceptionTableEntry) (x : ExceptionTableEntry) (suf : List ExceptionTableEntry) (hsplit : tableOf hh = ahead ++ x :: suf)
    (hpass : ∀ z ∈ ahead, covers z pc = false ∨ (z.catchType ≠ 0 ∧ ∃ nm : String, (Cond.classLink own z.catchType nm).before args s = true ∧ va_Nc E nm s)) (hx : covers x pc = true) (h0 : x.catchType ≠ 0)
    (hlink : (Cond.classLink own x.catchType E).before args s = true) (hce : H[q9]? = some ce) (hcv : ce.vm = .none) (hcl : s.vm.findClass E = some ce.cls)
    (kk : W p l e R s m args below meth c H locs cells slots Q (F0 m x.handlerPc ls [.ref q9])) : vx_W p l e R s m args below meth c H locs cells slots Q (F0 m pc ls rest) q9 := by
  have hc : (Cond.castable E E).before args s = true := va_Nw.use rfl (hxz.1 _ hE)
  exact xc_catch C0.1.2.2.2.1 ahead x suf (by rw [C0.2.2.2]; exact hsplit) hpass hx h0 hlink hc hce hcv hcl kk
end GH
