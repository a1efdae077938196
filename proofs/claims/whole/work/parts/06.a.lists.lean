/-! a handle leaves the row, comes into it: place by place -/
theorem hg_at_get {R : List Nat} {k : Nat} (h : k < R.length) : hg_at R k = R[k] := by
  unfold hg_at
  rw [List.getD_eq_getElem?_getD, List.getElem?_eq_getElem h]
  rfl
theorem ho_take {R : List Nat} {k : Nat} (h : k < R.length) : R.take (k + 1) = R.take k ++ [hg_at R k] := by
  rw [List.take_add_one, List.getElem?_eq_getElem h, hg_at_get h]
  rfl
theorem ho_step {R : List Nat} {h k : Nat} (hk : k < R.length) : hg_out (R.take (k + 1)) h = if hg_at R k = h then hg_out (R.take k) h else hg_out (R.take k) h ++ [hg_at R k] := by
  rw [ho_take hk]
  unfold hg_out
  rw [List.filter_append]
  by_cases e : hg_at R k = h
  · rw [if_pos e]
    simp [e]
  · rw [if_neg e]
    simp [e]
theorem ho_len {R : List Nat} {h k : Nat} : (hg_out (R.take k) h).length ≤ k := by
  unfold hg_out
  exact Nat.le_trans (List.length_filter_le _ _) (List.length_take_le _ _)
theorem ho_l {F : List Nat} {x j : Nat} (hj : j < F.length) : hg_at (F ++ [x]) j = hg_at F j := by
  unfold hg_at
  rw [List.getD_eq_getElem?_getD, List.getD_eq_getElem?_getD, List.getElem?_append_left hj]
theorem ho_r {F : List Nat} {x : Nat} : hg_at (F ++ [x]) F.length = x := by
  unfold hg_at
  rw [List.getD_eq_getElem?_getD, List.getElem?_append_right (Nat.le_refl _), Nat.sub_self]
  rfl
theorem ho_put {F : List Nat} {x : Nat} {w : Nat → Int32} (h : ∀ j, j < F.length → w j = nI (hg_at F j)) : ∀ j, j < (F ++ [x]).length → upd w F.length (nI x) j = nI (hg_at (F ++ [x]) j) := by
  intro j hj
  rw [List.length_append, List.length_singleton] at hj
  by_cases e : j = F.length
  · subst e; rw [pk_us, ho_r]
  · rw [pk_un e, ho_l (by omega)]; exact h j (by omega)
theorem hi_at {b : Nat → Nat} {h : Nat} : ∀ (R : List Nat) (k : Nat), k ≤ R.length → (∀ j, j < k → b (hg_at R j) ≤ b h) → (k < R.length → b h < b (hg_at R k)) → ∀ j, hg_at (hg_ins b h R) j = if j < k then hg_at R j else if j = k then h else hg_at R (j - 1) := by
  intro R
  induction R with
  | nil =>
    intro k hk _ _ j
    have : k = 0 := Nat.le_zero.mp hk
    subst this
    rw [if_neg (Nat.not_lt_zero _)]
    cases j with
    | zero => rw [if_pos rfl]; rfl
    | succ j => rw [if_neg (Nat.succ_ne_zero j)]; rfl
  | cons x t ih =>
    intro k hk h1 h2 j
    cases k with
    | zero =>
      have h3 : b h < b x := h2 (Nat.zero_lt_succ _)
      rw [hg_ins, if_pos h3, if_neg (Nat.not_lt_zero _)]
      cases j with
      | zero => rw [if_pos rfl]; rfl
      | succ j => rw [if_neg (Nat.succ_ne_zero j)]; rfl
    | succ k =>
      have h3 : b x ≤ b h := h1 0 (Nat.zero_lt_succ _)
      rw [hg_ins, if_neg (Nat.not_lt.mpr h3)]
      cases j with
      | zero => rw [if_pos (Nat.zero_lt_succ _)]; rfl
      | succ j =>
        have h4 := ih k (Nat.le_of_succ_le_succ hk) (fun i hi => h1 (i + 1) (Nat.succ_lt_succ hi)) (fun hi => h2 (Nat.succ_lt_succ hi)) j
        have h5 : hg_at (x :: hg_ins b h t) (j + 1) = hg_at (hg_ins b h t) j := rfl
        rw [h5, h4]
        by_cases q : j < k
        · rw [if_pos q, if_pos (Nat.succ_lt_succ q)]; rfl
        · rw [if_neg q, if_neg (fun z => q (Nat.lt_of_succ_lt_succ z))]
          by_cases q2 : j = k
          · rw [if_pos q2, if_pos (by omega)]
          · rw [if_neg q2, if_neg (by omega)]
            obtain ⟨i, rfl⟩ : ∃ i, j = i + 1 := ⟨j - 1, by omega⟩
            rfl
theorem en_fin {R : List Nat} {b : Nat → Nat} {h k : Nat} {w : Nat → Int32} (hs : ∀ i j, i < j → j < R.length → b (hg_at R i) ≤ b (hg_at R j)) (hk : k ≤ R.length) (h1 : ∀ j, j < k → w j = nI (hg_at R j)) (h2 : ∀ j, k ≤ j → j < R.length → w (j + 1) = nI (hg_at R j) ∧ b h < b (hg_at R j)) (h3 : k = 0 ∨ b (hg_at R (k - 1)) ≤ b h) :
    ∀ j, j < R.length + 1 → upd w k (nI h) j = nI (hg_at (hg_ins b h R) j) := by
  have h4 : ∀ j, j < k → b (hg_at R j) ≤ b h := by
    intro j hj
    rcases h3 with h3 | h3
    · omega
    · by_cases e : j = k - 1
      · rw [e]; exact h3
      · exact Nat.le_trans (hs j (k - 1) (by omega) (by omega)) h3
  intro j hj
  rw [hi_at R k hk h4 (fun q => (h2 k (Nat.le_refl _) q).2) j]
  by_cases q : j < k
  · rw [if_pos q, pk_un (by omega)]; exact h1 j q
  · rw [if_neg q]
    by_cases q2 : j = k
    · rw [if_pos q2, q2, pk_us]
    · rw [if_neg q2, pk_un q2]
      obtain ⟨i, rfl⟩ : ∃ i, j = i + 1 := ⟨j - 1, by omega⟩
      exact (h2 i (by omega) (by omega)).1
theorem fl_no {f : Nat → Int32} {x y : Nat} {v : Int32} (h : y ≤ x) : f = (fun j => if x ≤ j ∧ j < y then v else f j) := by
  funext j
  rw [if_neg (by omega)]
section GCP
variable {p : Program} {l : Launch} {e : Env} {R : Room} {s : State} {m : MethodId} {args : Array Value} {below : List Frame} {meth : Method} {c : Code} {H : Heap} {locs : List Loc} {cells slots : Nat} {Q : State → Prop}
variable {cc : ByteArray} {pc : Nat} {ls : Array Slot} {rest : List Value} {G : gs_G} {ws : va_W} {A : Nat → Prop} {a : Nat}
/-- System.arraycopy within one array of ints -/
theorem gs_copy {nL index : Nat} {ret : Option FieldType} {wy : List Cond} {own : String} (C0 : gm_C p s m args meth c cc nL ret wy own) (hz : gs_Z G ws A s H locs) (i0 : Nat) {n : Nat} {f : Nat → Int32} (ha : ws[i0]? = some (a, .inl (G.2.1, n, .inl f))) (x y k : Nat) (h1 : x + k ≤ n) (h2 : y + k ≤ n) (hn : n < 2 ^ 31)
    (w1 : Cond.methodLink own index arraycopyName ∈ wy) (w2 : Cond.native arraycopyName ∈ wy) (w3 : Cond.static arraycopyName ∈ wy) (w4 : Cond.initialized "java/lang/System" ∈ wy) (hsize : ls.size = nL) (hf : 1 ≤ R.frames) (hl : (rest.map fun v => v.category).sum + (nativeFrameWords "java/lang/System" "arraycopy" 5 + 11) ≤ R.locals) (hdg : decode cc pc = .ok (.invokestatic index, 3))
    (kk : ∀ (H1 : Heap) (locs1 : List Loc), gs_Z G (ws.set i0 (a, .inl (G.2.1, n, .inl (va_cpy f f x y k)))) A s H1 locs1 → W p l e R s m args below meth c H1 locs1 cells slots Q (F0 m (pc + 3) ls rest)) : W p l e R s m args below meth c H locs cells slots Q (F0 m pc ls (.int (nI k) :: .int (nI y) :: .ref a :: .int (nI x) :: .ref a :: rest)) := by
  obtain ⟨⟨hx, hb, hml, hown, hts⟩, -, -, -⟩ := C0
  have c1 : (nI x).toNatClampNeg = x := nI_clamp (by omega)
  have c2 : (nI y).toNatClampNeg = y := nI_clamp (by omega)
  have c3 : (nI k).toNatClampNeg = k := nI_clamp (by omega)
  refine va_copyi hx hb (by rw [hml, hsize]) hown (hts _ w1) (hts _ w2) (hts _ w3) (hts _ w4) hz.1 hz.2.1 hz.2.2.1 hz.2.2.2.1 i0 i0 0 0 ha ha rfl rfl rfl (nI_pos (by omega)) (nI_pos (by omega)) (nI_pos (by omega)) (by rw [c1, c3]; exact h1) (by rw [c2, c3]; exact h2) (fun _ _ => rfl) hf hl hdg (fun H1 locs1 g1 g2 g3 => ?_)
  rw [c1, c2, c3] at g1 g2
  exact kk H1 locs1 ⟨hz.1, g1, g2, g3, hz.2.2.2.2⟩
end GCP
