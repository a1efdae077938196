/-! THE LAW: what its body stands on -/
def la (p : Program) (s : State) (m : MethodId) (c : Code) (b L : Nat) (xs : Nat → Int32) : Prop := CallFix p m c cL_law 7 s #[Value.ref b] wsL_law RL ∧ va_X b L xs s s.heap ∧ b < s.heap.size ∧ xz (fun q : Nat => s.heap.size ≤ q) s s.heap ∧ xn s
abbrev laZ (G : gs_G) (q qy : Nat → Nat) (qo : Nat) (r : xr × (Nat → Int64)) (y : yr) (s : State) (H : Heap) (locs : List Loc) : Prop := gs_Z G (hw G q qo r ++ yw G qy y) (fun q : Nat => s.heap.size ≤ q) s H locs
abbrev laL (ls : Array Slot) (b : Nat) (q qy : Nat → Nat) (qo i : Nat) : Prop := lv_has ls 7 [(0, .ref b), (1, .ref (q 0)), (2, .ref (qy 0)), (3, .ref qo), (4, .int (nI i))]
/-- how it goes on behind a case of the switch -/
def laK (p : Program) (l : Launch) (e : Env) (s : State) (m : MethodId) (below : List Frame) (meth : Method) (c : Code) (b : Nat) (G : gs_G) (q qy : Nat → Nat) (qo i cells slots : Nat) (Q : State → Prop) : Prop :=
  ∀ (S' : hs_S) (r' : xr × (Nat → Int64)) (y' : yr) (H' : Heap) (locs' : List Loc) (ls' : Array Slot), rx S' r'.1 → ry S' y' → hs_I S' → laZ G q qy qo r' y' s H' locs' → laL ls' b q qy qo i → W p l e room_1 s m #[Value.ref b] below meth c H' locs' (cells + 4) (slots + 24) Q (F0 m 1069 ls' [])
section LA
variable {p : Program} {l : Launch} {e : Env} {R : Room} {s : State} {m : MethodId} {args : Array Value} {below : List Frame} {meth : Method} {c : Code} {H : Heap} {locs : List Loc} {cells slots : Nat} {Q : State → Prop}
variable {cc : ByteArray} {pc : Nat} {ls : Array Slot} {rest : List Value} {G : gs_G} {ws wr : va_W} {A : Nat → Prop} {b L : Nat} {xs : Nat → Int32}
theorem gl_ld (C0 : la p s m c b L xs) (hz : gs_Z G ws (fun q : Nat => s.heap.size ≤ q) s H locs) {k : Nat} (hk : k < L) (hL : L ≤ 2048) (hdg : decode cL_law pc = .ok (.iaload, 1))
    (kk : W p l e R s m args below meth c H locs cells slots Q (F0 m (pc + 1) ls (.int (xs k) :: rest))) : W p l e R s m args below meth c H locs cells slots Q (F0 m pc ls (.int (nI k) :: .ref b :: rest)) := by
  refine va_sld C0.1.1 C0.1.2.1 C0.2.1 C0.2.2.1 (Nat.not_le.mpr C0.2.2.1) hz.2.2.2.1 (vp_in_nI hk (by omega)) hdg ?_
  rw [nI_clamp (by omega)]
  exact kk
/-- x != 0, as a number -/
theorem gl_bool (hx : p.tables.exec = Jvm.exec) (hb : c.code = cc) {v : Int32} (d0 : decode cc pc = .ok (.ifCond .eq 7, 3)) (d1 : decode cc (pc + 3) = .ok (.iconst 1, 1)) (d2 : decode cc (pc + 3 + 1) = .ok (.goto 4, 3)) (d3 : decode cc (pc + 7) = .ok (.iconst 0, 1))
    (kk : W p l e R s m args below meth c H locs cells slots Q (F0 m (pc + 8) ls (.int (bI (decide (v ≠ 0))) :: rest))) : W p l e R s m args below meth c H locs cells slots Q (F0 m pc ls (.int v :: rest)) := by
  refine lv_if_eq (tgt := pc + 7) hx hb d0 (by omega) (fun h => ?_) (fun h => ?_)
  · refine lv_iconst (v := nI 0) hx hb d3 (by decide) ?_
    refine gs_eq (y := bI (decide (v ≠ 0))) (bI_no (fun z => z h)).symm ?_
    exact kk
  · refine lv_iconst (v := nI 1) hx hb d1 (by decide) ?_
    refine lv_goto (tgt := pc + 8) hx hb d2 (by omega) ?_
    refine gs_eq (y := bI (decide (v ≠ 0))) (bI_yes h).symm ?_
    exact kk
theorem gl_eqL {x y : Int64} (h : x = y) (k : W p l e R s m args below meth c H locs cells slots Q (F0 m pc ls (.long y :: rest))) : W p l e R s m args below meth c H locs cells slots Q (F0 m pc ls (.long x :: rest)) := by rw [h]; exact k
theorem gh_pre (hz : gs_Z G (ws ++ wr) A s H locs) (hxz : xz A s s.heap) (hxn : xn s) {av : List Value} : ∀ U : State, U.heap = H → s.WarmedH U.vm → va_Pc av (gh_P G ws H.size) av.toArray U := fun U hU hW => by
  obtain ⟨h1, h2⟩ := gs_xpre hz hxz (av := av) U hU hW
  exact ⟨h1, h2, hxn.moved hW.alike⟩
theorem gh_callS {ρ : Type} {w : ρ → va_W} {r : ρ} {y : MethodName} {bytes : ByteArray} {maxL nL mc ms n index : Nat} {ret : Option FieldType} {hh : List (Nat × Nat × Nat × Nat)} {wy Ts : List Cond} {rm : Room} {own : String} {As st0 : List Value} {post : Int32 → ρ → Prop} (S : CallFix p m c cc nL s args Ts own) (hM : gh_i l y wy rm G w r As post mc ms) (cw : vx_CSW R s args own index y bytes maxL ret hh wy rm mc ms n)
    (hz : gs_Z G (w r ++ wr) A s H locs) (hxz : xz A s s.heap) (hxn : xn s) (hn : As.length = n) (hsize : ls.size = nL) (hst : st0 = As.reverse ++ rest) (hW : (rest.map fun v => v.category).sum ≤ 8) (hdg : decode cc pc = .ok (.invokestatic index, 3)) (hf : cells + mc ≤ R.cells ∧ slots + ms ≤ R.slots)
    (kk : ∀ (res : Int32) (u : ρ) (H1 : Heap) (locs1 : List Loc), post res u → gs_Z G (w u ++ wr) A s H1 locs1 → W p l e R s m args below meth c H1 locs1 (cells + mc) (slots + ms) Q (F0 m (pc + 3) ls (.int res :: rest))) : W p l e R s m args below meth c H locs cells slots Q (F0 m pc ls st0) := by
  refine vx_calli (vx_runSX (As := As) (rest := rest) S (hM H.size) cw ⟨gh_blind, gh_pre hz hxz hxn⟩ rfl hn hsize hst (lv_room hW) hdg hf) hz.2.2.2.1 (fun q _ h => gs_F1 hz q h) (gs_F1 hz) (fun q _ h => gs_F1 hz q h) (fun E ce q9 u t H1 locs1 ht hvm hp hB hz1 hk1 hS hce hcv hcl => ?_) (fun res u t H1 locs1 ht hvm hw hB hz1 hk1 hS => ?_)
  · exact hB.1.elim
  · obtain ⟨hP1, hK1, hD1⟩ := hB
    rw [ht] at hP1
    exact kk res u H1 locs1 hw (gs_back hz hk1 hP1 hD1 hS)
end LA
theorem lt_ex {L i : Nat} (hL : L ≤ 2048) (hi : i ≤ 2052) (h : L < i + 4) : nI L - nI 4 < nI i := by
  by_cases q : 4 ≤ L
  · rw [pk_sub q, nI_ltI (by omega) (by omega)]
    omega
  · have h0 : nI L - nI 4 < 0 := by
      rcases (show L = 0 ∨ L = 1 ∨ L = 2 ∨ L = 3 by omega) with rfl | rfl | rfl | rfl <;> decide
    exact Int32.lt_of_lt_of_le h0 (nI_pos' (by omega))
theorem lt_no {L i : Nat} (hL : L ≤ 2048) (h : i + 4 ≤ L) : ¬ nI L - nI 4 < nI i := by
  rw [pk_sub (by omega), nI_ltI (by omega) (by omega)]
  omega
