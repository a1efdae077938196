/-! static calls; the JDK's fills -/
section GST
variable {p : Program} {l : Launch} {e : Env} {R : Room} {s : State} {m : MethodId} {args : Array Value} {below : List Frame} {meth : Method} {c : Code} {H : Heap} {locs : List Loc} {cells slots : Nat} {Q : State → Prop}
variable {cc : ByteArray} {pc : Nat} {ls : Array Slot} {rest : List Value} {G : gs_G} {wr : va_W} {A : Nat → Prop}
variable {ρ : Type} {w : ρ → va_W} {r : ρ} {y : MethodName} {bytes : ByteArray} {maxL nL mc ms n index : Nat} {ret : Option FieldType} {wy Ts : List Cond} {rm : Room} {own : String} {As st0 : List Value}
theorem gs_callSv {post : ρ → Prop} (S : CallFix p m c cc nL s args Ts own) (hM : gm_v l y wy rm G w r As post mc ms) (cw : CallB R s args own index y bytes maxL ret wy rm mc ms n ∧ (Cond.static y).before args s = true)
    (hz : gs_Z G (w r ++ wr) A s H locs) (hn : As.length = n) (hsize : ls.size = nL) (hst : st0 = As.reverse ++ rest) (hW : (rest.map fun v => v.category).sum ≤ 8) (hdg : decode cc pc = .ok (.invokestatic index, 3)) (hf : cells + mc ≤ R.cells ∧ slots + ms ≤ R.slots)
    (kk : ∀ (u : ρ) (H1 : Heap) (locs1 : List Loc), post u → gs_Z G (w u ++ wr) A s H1 locs1 → W p l e R s m args below meth c H1 locs1 (cells + mc) (slots + ms) Q (F0 m (pc + 3) ls rest)) : W p l e R s m args below meth c H locs cells slots Q (F0 m pc ls st0) := by
  refine va_callv (va_runS (As := As) (rest := rest) S (hM H.size) cw ⟨gm_blind, gs_pre hz⟩ rfl hn hsize hst (lv_room hW) hdg hf) hz.2.2.2.1 (fun q _ h => gs_F1 hz q h) (gs_F1 hz) (fun u t H1 locs1 ht hvm hw hB hz1 hk1 hS => ?_)
  obtain ⟨hP1, hK1, hD1⟩ := hB
  rw [ht] at hP1
  exact kk u H1 locs1 hw (gs_back hz hk1 hP1 hD1 hS)
theorem gs_callSi {post : Int32 → ρ → Prop} (S : CallFix p m c cc nL s args Ts own) (hM : gm_i l y wy rm G w r As post mc ms) (cw : CallB R s args own index y bytes maxL ret wy rm mc ms n ∧ (Cond.static y).before args s = true)
    (hz : gs_Z G (w r ++ wr) A s H locs) (hn : As.length = n) (hsize : ls.size = nL) (hst : st0 = As.reverse ++ rest) (hW : (rest.map fun v => v.category).sum ≤ 8) (hdg : decode cc pc = .ok (.invokestatic index, 3)) (hf : cells + mc ≤ R.cells ∧ slots + ms ≤ R.slots)
    (kk : ∀ (res : Int32) (u : ρ) (H1 : Heap) (locs1 : List Loc), post res u → gs_Z G (w u ++ wr) A s H1 locs1 → W p l e R s m args below meth c H1 locs1 (cells + mc) (slots + ms) Q (F0 m (pc + 3) ls (.int res :: rest))) : W p l e R s m args below meth c H locs cells slots Q (F0 m pc ls st0) := by
  refine va_calli (va_runS (As := As) (rest := rest) S (hM H.size) cw ⟨gm_blind, gs_pre hz⟩ rfl hn hsize hst (lv_room hW) hdg hf) hz.2.2.2.1 (fun q _ h => gs_F1 hz q h) (gs_F1 hz) (fun res u t H1 locs1 ht hvm hw hB hz1 hk1 hS => ?_)
  obtain ⟨hP1, hK1, hD1⟩ := hB
  rw [ht] at hP1
  exact kk res u H1 locs1 hw (gs_back hz hk1 hP1 hD1 hS)
end GST
theorem jn_le {a b : Nat} (ha : a < 2 ^ 31) (hb : b < 2 ^ 31) (h : a ≤ b) : nI a ≤ nI b := (nI_leI ha hb).mpr h
set_option maxHeartbeats 4000000 in
set_option maxRecDepth 100000 in
/-- Arrays.rangeCheck, in range: nothing -/
theorem k_rangeCheck (l : Launch) (G : gs_G) (ws : va_W) (n x y : Nat) (h1 : x ≤ y) (h2 : y ≤ n) (hn : n < 2 ^ 31) : gm_v l yJ7_rangeCheck_23922 wsJ7_rangeCheck_23922 (gm_rm 1 0 0) G (fun w : va_W => w) ws [.int (nI n), .int (nI x), .int (nI y)] (fun u => u = ws) 0 0 := by
  refine gm_v.of (cc := cJ7_rangeCheck_23922) (nL := 3) (ret := none) (by decide +kernel) rfl (Nat.le_of_ble_eq_true rfl) ?_
  intro p e s m args below meth c ls C0 hz hl
  have hl : lv_has ls 3 [(0, .int (nI n)), (1, .int (nI x)), (2, .int (nI y))] := hl
  refine lv_iload_n C0.1.1 C0.1.2.1 dJ7_rangeCheck_23922_0 rfl (lv_at hl 1 rfl) ?_
  refine lv_iload_n C0.1.1 C0.1.2.1 dJ7_rangeCheck_23922_1 rfl (lv_at hl 2 rfl) ?_
  refine lv_icmp_le (tgt := 46) C0.1.1 C0.1.2.1 dJ7_rangeCheck_23922_2 (by decide) (fun _ => ?_) (fun c1 => absurd (jn_le (by omega) (by omega) h1) c1)
  refine lv_iload_n C0.1.1 C0.1.2.1 dJ7_rangeCheck_23922_46 rfl (lv_at hl 1 rfl) ?_
  refine lv_if_ge (tgt := 59) C0.1.1 C0.1.2.1 dJ7_rangeCheck_23922_47 (by decide) (fun _ => ?_) (fun c1 => absurd (nI_pos' (by omega)) c1)
  refine lv_iload_n C0.1.1 C0.1.2.1 dJ7_rangeCheck_23922_59 rfl (lv_at hl 2 rfl) ?_
  refine lv_iload_n C0.1.1 C0.1.2.1 dJ7_rangeCheck_23922_60 rfl (lv_at hl 0 rfl) ?_
  refine lv_icmp_le (tgt := 73) C0.1.1 C0.1.2.1 dJ7_rangeCheck_23922_61 (by decide) (fun _ => ?_) (fun c1 => absurd (jn_le (by omega) (by omega) h2) c1)
  exact gs_retv ws C0 hz rfl (Nat.le_of_ble_eq_true rfl) (Nat.le_of_ble_eq_true rfl) dJ7_rangeCheck_23922_73
theorem fl_st {f : Nat → Int32} {x k : Nat} {v : Int32} (h : x ≤ k) : upd (fun j => if x ≤ j ∧ j < k then v else f j) k v = (fun j => if x ≤ j ∧ j < k + 1 then v else f j) := by
  funext j
  unfold upd
  by_cases e : j = k
  · subst e
    rw [if_pos rfl, if_pos ⟨h, Nat.lt_succ_self _⟩]
  · rw [if_neg e]
    dsimp only
    by_cases q : x ≤ j ∧ j < k
    · rw [if_pos q, if_pos ⟨q.1, Nat.lt_succ_of_lt q.2⟩]
    · rw [if_neg q, if_neg (fun z => q ⟨z.1, by omega⟩)]
theorem fl_0 {f : Nat → Int32} {x : Nat} {v : Int32} : f = (fun j => if x ≤ j ∧ j < x then v else f j) := by
  funext j
  rw [if_neg (by omega)]
theorem fl_set {ws : va_W} {i a : Nat} {e : va_E} (h : ws[i]? = some (a, e)) : ws = ws.set i (a, e) := by
  apply List.ext_getElem?
  intro j
  by_cases q : i = j
  · subst q
    rw [List.getElem?_set_self (List.getElem?_eq_some_iff.mp h).1, h]
  · rw [List.getElem?_set_ne q]
set_option maxHeartbeats 4000000 in
set_option maxRecDepth 100000 in
/-- Arrays.fill(a, from, to, v), in range -/
theorem k_fillr (l : Launch) (G : gs_G) (ws : va_W) (i0 a0 n : Nat) (f : Nat → Int32) (hw : ws[i0]? = some (a0, .inl (G.2.1, n, .inl f))) (x y : Nat) (v : Int32) (h1 : x ≤ y) (h2 : y ≤ n) (hn : n < 2 ^ 31) : gm_v l yJ7_fill_fda19 wsJ7_fill_fda19 (gm_rm 2 0 0) G (fun w : va_W => w) ws [.ref a0, .int (nI x), .int (nI y), .int v] (fun u => u = ws.set i0 (a0, .inl (G.2.1, n, .inl (fun j => if x ≤ j ∧ j < y then v else f j)))) 0 0 := by
  refine gm_v.of (cc := cJ7_fill_fda19) (nL := 5) (ret := none) (by decide +kernel) rfl (Nat.le_of_ble_eq_true rfl) ?_
  intro p e s m args below meth c ls C0 hz hl
  have hl : lv_has ls 5 [(0, .ref a0), (1, .int (nI x)), (2, .int (nI y)), (3, .int v)] := hl
  refine lv_aload_n C0.1.1 C0.1.2.1 dJ7_fill_fda19_0 rfl (lv_at hl 0 rfl) ?_
  refine va_alen (v := nI n) C0.1.1 C0.1.2.1 hz.1 hz.2.1 i0 0 hw rfl rfl dJ7_fill_fda19_1 ?_
  refine lv_iload_n C0.1.1 C0.1.2.1 dJ7_fill_fda19_2 rfl (lv_at hl 1 rfl) ?_
  refine lv_iload_n C0.1.1 C0.1.2.1 dJ7_fill_fda19_3 rfl (lv_at hl 2 rfl) ?_
  refine gs_callSv (w := fun w : va_W => w) (wr := []) C0.1 (k_rangeCheck l G ws n x y h1 h2 hn) (va_cwS 3 C0.1.2.2.2.2 gJ7_fill_fda19_J7_rangeCheck_23922 rfl rfl rfl (by decide +kernel) ⟨Nat.le_of_ble_eq_true rfl, Nat.le_of_ble_eq_true rfl⟩) (gs_nil hz) rfl hl.1 rfl (Nat.le_of_ble_eq_true rfl) dJ7_fill_fda19_4 ⟨Nat.le_of_ble_eq_true rfl, Nat.le_of_ble_eq_true rfl⟩ (fun u H locs hp hz => ?_)
  replace hz := gs_unnil hz
  rw [hp] at hz
  refine lv_iload_n C0.1.1 C0.1.2.1 dJ7_fill_fda19_7 rfl (lv_at hl 1 rfl) ?_
  refine lv_istore (lv' := [(4, .int (nI x)), (0, .ref a0), (1, .int (nI x)), (2, .int (nI y)), (3, .int v)]) C0.1.1 C0.1.2.1 dJ7_fill_fda19_8 hl (by decide) rfl (fun ls hl => ?_)
  have hz2 : gs_Z G (ws.set i0 (a0, .inl (G.2.1, n, .inl (fun j => if x ≤ j ∧ j < x then v else f j)))) (va_A ws s.heap.size) s H locs := by
    rw [← fl_0, ← fl_set hw]; exact hz
  have hil : i0 < ws.length := (List.getElem?_eq_some_iff.mp hw).1
  refine (?loop : ∀ (d k : Nat) (ls : Array Slot) (H : Heap) (locs : List Loc), gs_Z G (ws.set i0 (a0, .inl (G.2.1, n, .inl (fun j => if x ≤ j ∧ j < k then v else f j)))) (va_A ws s.heap.size) s H locs → x ≤ k → k + d = y → lv_has ls 5 [(4, .int (nI k)), (0, .ref a0), (1, .int (nI x)), (2, .int (nI y)), (3, .int v)] → W p l e _ s m args below meth c H locs 0 0 _ (F0 m 10 ls [])) (y - x) x ls _ _ hz2 (Nat.le_refl _) (by omega) hl
  intro d
  induction d using Nat.strongRecOn with
  | _ d ih =>
    intro k ls H locs hz hk hd hl
    refine lv_iload C0.1.1 C0.1.2.1 dJ7_fill_fda19_10 (lv_at hl 0 rfl) ?_
    refine lv_iload_n C0.1.1 C0.1.2.1 dJ7_fill_fda19_12 rfl (lv_at hl 3 rfl) ?_
    refine lv_icmp_ge (tgt := 27) C0.1.1 C0.1.2.1 dJ7_fill_fda19_13 (by decide) (fun c1 => ?_) (fun c1 => ?_)
    · rw [nI_leI (by omega) (by omega)] at c1
      obtain rfl : k = y := by omega
      exact gs_retv (w := fun w : va_W => w) _ C0 hz rfl (Nat.le_of_ble_eq_true rfl) (Nat.le_of_ble_eq_true rfl) dJ7_fill_fda19_27
    · rw [nI_leI (by omega) (by omega)] at c1
      refine lv_aload_n C0.1.1 C0.1.2.1 dJ7_fill_fda19_16 rfl (lv_at hl 1 rfl) ?_
      refine lv_iload C0.1.1 C0.1.2.1 dJ7_fill_fda19_17 (lv_at hl 0 rfl) ?_
      refine lv_iload_n C0.1.1 C0.1.2.1 dJ7_fill_fda19_19 rfl (lv_at hl 4 rfl) ?_
      refine gs_st C0.1.1 C0.1.2.1 hz i0 (List.getElem?_set_self hil) rfl k (by omega) hn rfl dJ7_fill_fda19_20 (fun H locs hz => ?_)
      rw [List.set_set, fl_st hk] at hz
      refine lv_iinc (v := nI (k + 1)) (lv' := [(4, .int (nI (k + 1))), (0, .ref a0), (1, .int (nI x)), (2, .int (nI y)), (3, .int v)]) C0.1.1 C0.1.2.1 dJ7_fill_fda19_21 hl (k := 0) rfl (nI_1 k) (by decide) rfl (fun ls hl => ?_)
      refine lv_goto (tgt := 10) C0.1.1 C0.1.2.1 dJ7_fill_fda19_24 (by decide) ?_
      exact ih (d - 1) (by omega) (k + 1) ls _ _ hz (by omega) (by omega) hl
