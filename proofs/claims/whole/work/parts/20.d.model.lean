/-! THE REFERENCE: what its public methods owe; the states after them -/
def py (t : sp_T) (res : Int32) (u : yr) : Prop := y_th u = nI t.1 ∧ (t.1 = 0 → res = t.2.1) ∧ ry t.2.2 u
theorem py_of {t : sp_T} {res v : Int32} {u : yr} {T : hs_S} (h : t = (0, v, T)) (hth : y_th u = nI 0) (hr : res = v) (hu : ry T u) : py t res u := by
  rw [h]; exact ⟨hth, fun _ => hr, hu⟩
theorem py_x {t : sp_T} {k : Nat} {res v : Int32} {u : yr} {T : hs_S} (h : t = (k, v, T)) (hk : k ≠ 0) (hth : y_th u = nI k) (hu : ry T u) : py t res u := by
  rw [h]; exact ⟨hth, fun z => absurd z hk, hu⟩
theorem hs_lf_b {S : hs_S} {h : Nat} (hno : ∀ j, j < (hs_R S).length → hg_at (hs_R S) j ≠ h ∧ hg_at (hs_R S) j ≠ 48) : ∀ (d k : Nat), k + d ≤ (hs_R S).length → hs_lf S h d k = hs_lf S 48 d k := by
  intro d
  induction d with
  | zero => intro k _; rfl
  | succ d ih =>
    intro k hk
    have h1 := hno k (by omega)
    rw [hs_lf, hs_lf, ih (k + 1) (by omega)]
    by_cases q : hs_o S (hg_at (hs_R S) k) = true ∧ hs_mv S (hg_at (hs_R S) k) = true
    · rw [if_pos ⟨h1.1, q⟩, if_pos ⟨h1.2, q⟩]
    · rw [if_neg (fun z => q z.2), if_neg (fun z => q z.2)]
theorem hs_l1_b {S : hs_S} (hI : hs_I S) {h : Nat} (hu : hs_u S h ≠ 2) : hs_l1 S h = hs_l1 S 48 :=
  hs_lf_b (fun j hj => by
    have h1 := hI.J.at hj
    refine ⟨fun z => hu ?_, by omega⟩
    rw [← z]
    exact h1.2) _ _ (by omega)
theorem hs_rm_b {n h : Nat} : ∀ (d : Nat) (T : hs_S), hs_I T → hs_u T h ≠ 2 → hs_rm n h d T = hs_rm n 48 d T := by
  intro d
  induction d with
  | zero => intro T _ _; rfl
  | succ d ih =>
    intro T hI hu
    rcases op_cases (hs_pk T n) with ⟨k, e⟩ | e
    · rw [hs_rm_s e, hs_rm_s e]
    · rcases op_cases (hs_l1 T 48) with ⟨x, e1⟩ | e1
      · rw [hs_rm_l e e1, hs_rm_l e (x := x) (by rw [hs_l1_b hI hu]; exact e1)]
        refine ih _ (hs_sl_I (hs_gu_I hI)) ?_
        show va_up (hs_u T) x 1 h ≠ 2
        by_cases q : h = x
        · rw [q, va_up_self]; decide
        · rw [va_up_ne _ _ q]; exact hu
      · rw [hs_rm_n e e1, hs_rm_n e (by rw [hs_l1_b hI hu]; exact e1)]
theorem hs_room_b {S : hs_S} (hI : hs_I S) {n h : Nat} (hu : hs_u S h ≠ 2) : hs_room S n h = hs_room S n 48 := by
  rcases op_cases (hs_pk S n) with ⟨k, e⟩ | e
  · rw [hs_room_s e, hs_room_s e]
  · rw [hs_room_n e, hs_room_n e]
    exact hs_rm_b 48 _ (hs_sl_I hI) hu
theorem ry_mk {S : hs_S} {r r1 : yr} (hS : ry S r) (hI : hs_I S) {h a n : Nat} {fx : Bool} (hn : n ≤ 1024) (h1 : ∀ g, y_us r1 g = if g = h then nI 1 else y_us r g) (h2 : ∀ g, y_fx r1 g = if g = h then bI fx else y_fx r g) (h3 : ∀ g, y_lk r1 g = if g = h then nI 0 else y_lk r g) (h4 : ∀ g, y_ls r1 g = if g = h then nI 0 else y_ls r g) (h5 : ∀ g, y_bg r1 g = if g = h then nI a else y_bg r g) (h6 : ∀ g, y_sz r1 g = if g = h then nI n else y_sz r g) (h7 : y_by r1 = mfl (y_by r) (1024 * h) (1024 * h + n)) (h8 : y_mv r1 = y_mv r) (h9 : y_lo r1 = y_lo r) : ry (hs_mk S h a n fx) r1 := by
  obtain ⟨g1, g2, g3, g4, g5, g6⟩ := hS
  refine ⟨fun g hg => ?_, fun g hg => ?_, fun g hg hu => ?_, fun g hg hu i hi => ?_, h8.trans g5, h9.trans g6⟩
  · rw [h1 g]
    show _ = bI (decide (va_up (hs_u S) h 2 g ≠ 0))
    by_cases q : g = h
    · subst q; rw [if_pos rfl, va_up_self]; rfl
    · rw [if_neg q, va_up_ne _ _ q]; exact g1 g hg
  · rw [h6 g]
    show _ = nI (va_up (hs_n S) h n g)
    by_cases q : g = h
    · subst q; rw [if_pos rfl, va_up_self]
    · rw [if_neg q, va_up_ne _ _ q]; exact g2 g hg
  · rw [h2 g, h3 g, h4 g, h5 g]
    have hu : va_up (hs_u S) h 2 g = 2 := hu
    show _ = nI (va_up (hs_b S) h a g) ∧ _ = bI (va_up (hs_f S) h fx g) ∧ _ = bI (va_up (hs_l S) h false g) ∧ _ = bI (va_up (hs_o S) h false g)
    by_cases q : g = h
    · subst q; rw [if_pos rfl, if_pos rfl, if_pos rfl, if_pos rfl, va_up_self, va_up_self, va_up_self, va_up_self]; exact ⟨rfl, rfl, rfl, rfl⟩
    · rw [if_neg q, if_neg q, if_neg q, if_neg q, va_up_ne _ _ q, va_up_ne _ _ q, va_up_ne _ _ q, va_up_ne _ _ q]
      rw [va_up_ne _ _ q] at hu
      exact g3 g hg hu
  · have hu : va_up (hs_u S) h 2 g = 2 := hu
    have hi : i < va_up (hs_n S) h n g := hi
    rw [h7]
    show _ = va_up (hs_y S) h (fun _ => 0) g i
    by_cases q : g = h
    · subst q
      rw [va_up_self] at hi
      rw [va_up_self, mfl_in (by omega) (by omega)]
      rfl
    · rw [va_up_ne _ _ q] at hu hi
      have hng := hI.n1024 hg
      rw [va_up_ne _ _ q, mfl_out (by omega)]
      exact g4 g hg hu i hi
theorem ry_sz {S : hs_S} {r r1 : yr} (hS : ry S r) (hI : hs_I S) {h n : Nat} (hh : h < 48) (hu2 : hs_u S h = 2) (hn : n ≤ 1024) (h1 : y_us r1 = y_us r) (h2 : y_fx r1 = y_fx r) (h3 : y_lk r1 = y_lk r) (h4 : y_ls r1 = y_ls r) (h5 : y_bg r1 = y_bg r) (h6 : ∀ g, y_sz r1 g = if g = h then nI n else y_sz r g) (h7 : y_by r1 = mfl (y_by r) (1024 * h + hs_n S h) (1024 * h + n)) (h8 : y_mv r1 = y_mv r) (h9 : y_lo r1 = y_lo r) : ry (hs_sz S h n) r1 := by
  obtain ⟨g1, g2, g3, g4, g5, g6⟩ := hS
  refine ⟨fun g hg => by rw [h1]; exact g1 g hg, fun g hg => ?_, fun g hg hu => by rw [h5, h2, h3, h4]; exact g3 g hg hu, fun g hg hu i hi => ?_, h8.trans g5, h9.trans g6⟩
  · rw [h6 g]
    show _ = nI (va_up (hs_n S) h n g)
    by_cases q : g = h
    · subst q; rw [if_pos rfl, va_up_self]
    · rw [if_neg q, va_up_ne _ _ q]; exact g2 g hg
  · have hu : hs_u S g = 2 := hu
    have hi : i < va_up (hs_n S) h n g := hi
    rw [h7]
    show _ = va_up (hs_y S) h (fun i => if hs_n S h ≤ i then 0 else hs_y S h i) g i
    by_cases q : g = h
    · subst q
      rw [va_up_self] at hi
      rw [va_up_self]
      by_cases z : hs_n S g ≤ i
      · rw [mfl_in (by omega) (by omega), if_pos z]; rfl
      · rw [mfl_out (by omega), if_neg z]; exact g4 g hg hu i (by omega)
    · rw [va_up_ne _ _ q] at hi
      have hng := hI.n1024 hg
      have hnh := hI.n1024 hh
      rw [va_up_ne _ _ q, mfl_out (by omega)]
      exact g4 g hg hu i hi
theorem ry_gr {S : hs_S} {r r1 : yr} (hS : ry S r) (hI : hs_I S) {h a n : Nat} (hh : h < 48) (hu2 : hs_u S h = 2) (hn : n ≤ 1024) (h1 : y_us r1 = y_us r) (h2 : y_fx r1 = y_fx r) (h3 : y_lk r1 = y_lk r) (h4 : y_ls r1 = y_ls r) (h5 : ∀ g, y_bg r1 g = if g = h then nI a else y_bg r g) (h6 : ∀ g, y_sz r1 g = if g = h then nI n else y_sz r g) (h7 : y_by r1 = mfl (y_by r) (1024 * h + hs_n S h) (1024 * h + n)) (h8 : y_mv r1 = y_mv r + nI (hs_n S h)) (h9 : y_lo r1 = y_lo r) : ry (hs_gr S h a n) r1 := by
  have hz := ry_sz (r1 := ys_mv (ys_bg r1 (y_bg r)) (y_mv r)) hS hI hh hu2 hn h1 h2 h3 h4 rfl h6 h7 rfl h9
  obtain ⟨g1, g2, g3, g4, g5, g6⟩ := hz
  refine ⟨g1, g2, fun g hg hu => ?_, g4, ?_, g6⟩
  · have h10 := g3 g hg hu
    refine ⟨?_, h10.2⟩
    rw [h5 g]
    show _ = nI (va_up (hs_b S) h a g)
    by_cases q : g = h
    · subst q; rw [if_pos rfl, va_up_self]
    · rw [if_neg q, va_up_ne _ _ q]; exact h10.1
  · rw [h8, hS.2.2.2.2.1]; rfl
theorem ry_tk {S : hs_S} {r : yr} (hS : ry S r) {h : Nat} : ry (hs_tk S h 0) (ys_sz (ys_us r (upd (y_us r) h (nI 0))) (upd (y_sz r) h (nI 0))) := by
  obtain ⟨h1, h2, h3, h4, h5, h6⟩ := hS
  have hne : ∀ g, hs_u (hs_tk S h 0) g = 2 → g ≠ h := fun g z e => by
    have z2 : va_up (hs_u S) h 0 g = 2 := z
    rw [e, va_up_self] at z2
    exact absurd z2 (by decide)
  have hu3 : ∀ g, hs_u (hs_tk S h 0) g = 2 → hs_u S g = 2 := fun g z => by
    have z2 : va_up (hs_u S) h 0 g = 2 := z
    rw [va_up_ne _ _ (hne g z)] at z2
    exact z2
  refine ⟨fun g hg => ?_, fun g hg => ?_, fun g hg hu => h3 g hg (hu3 g hu), fun g hg hu i hi => ?_, h5, h6⟩
  · show upd (y_us r) h (nI 0) g = bI (decide (va_up (hs_u S) h 0 g ≠ 0))
    by_cases q : g = h
    · subst q; rw [va_up_self, pk_us]; rfl
    · rw [va_up_ne _ _ q, pk_un q]; exact h1 g hg
  · show upd (y_sz r) h (nI 0) g = nI (va_up (hs_n S) h 0 g)
    by_cases q : g = h
    · subst q; rw [pk_us, va_up_self]
    · rw [pk_un q, va_up_ne _ _ q]; exact h2 g hg
  · have hi2 : i < va_up (hs_n S) h 0 g := hi
    rw [va_up_ne _ _ (hne g hu)] at hi2
    exact h4 g hg (hu3 g hu) i hi2
theorem ry_lk {S : hs_S} {r : yr} (hS : ry S r) {h : Nat} {v : Bool} : ry (hs_R S, hs_b S, hs_n S, hs_u S, hs_f S, va_up (hs_l S) h v, hs_o S, hs_y S, hs_m S, hs_x S) (ys_lk r (upd (y_lk r) h (bI v))) := by
  obtain ⟨h1, h2, h3, h4, h5, h6⟩ := hS
  refine ⟨h1, h2, fun g hg hu => ?_, h4, h5, h6⟩
  have h8 := h3 g hg hu
  refine ⟨h8.1, h8.2.1, ?_, h8.2.2.2⟩
  show upd (y_lk r) h (bI v) g = bI (va_up (hs_l S) h v g)
  by_cases q : g = h
  · subst q; rw [pk_us, va_up_self]
  · rw [pk_un q, va_up_ne _ _ q]; exact h8.2.2.1
theorem ry_ls {S : hs_S} {r : yr} (hS : ry S r) {h : Nat} {v : Bool} : ry (hs_R S, hs_b S, hs_n S, hs_u S, hs_f S, hs_l S, va_up (hs_o S) h v, hs_y S, hs_m S, hs_x S) (ys_ls r (upd (y_ls r) h (bI v))) := by
  obtain ⟨h1, h2, h3, h4, h5, h6⟩ := hS
  refine ⟨h1, h2, fun g hg hu => ?_, h4, h5, h6⟩
  have h8 := h3 g hg hu
  refine ⟨h8.1, h8.2.1, h8.2.2.1, ?_⟩
  show upd (y_ls r) h (bI v) g = bI (va_up (hs_o S) h v g)
  by_cases q : g = h
  · subst q; rw [pk_us, va_up_self]
  · rw [pk_un q, va_up_ne _ _ q]; exact h8.2.2.2
theorem ry_put {S : hs_S} {r : yr} (hS : ry S r) (hI : hs_I S) {h i : Nat} {v : Int32} (hh : h < 48) (hi : i < hs_n S h) : ry (hs_R S, hs_b S, hs_n S, hs_u S, hs_f S, hs_l S, hs_o S, va_up (hs_y S) h (va_up (hs_y S h) i v), hs_m S, hs_x S) (ys_by r (upd (y_by r) (1024 * h + i) v)) := by
  obtain ⟨h1, h2, h3, h4, h5, h6⟩ := hS
  refine ⟨h1, h2, h3, fun g hg hug j hj => ?_, h5, h6⟩
  have hug : hs_u S g = 2 := hug
  have hj : j < hs_n S g := hj
  show upd (y_by r) (1024 * h + i) v (1024 * g + j) = va_up (hs_y S) h (va_up (hs_y S h) i v) g j
  by_cases q : g = h
  · subst q
    rw [va_up_self]
    by_cases e : j = i
    · subst e; rw [pk_us, va_up_self]
    · rw [pk_un (by omega), va_up_ne _ _ e]; exact h4 g hg hug j hj
  · have hng := hI.n1024 hg
    have hnh := hI.n1024 hh
    rw [va_up_ne _ _ q, pk_un (by omega)]
    exact h4 g hg hug j hj
theorem ry_goz {S : hs_S} {r : yr} (hS : ry S r) {h a : Nat} (he : a = hs_b S h) : ry (hs_go S h a) (ys_mv (ys_bg r (upd (y_bg r) h (nI a))) (y_mv r)) := by
  obtain ⟨h1, h2, h3, h4, h5, h6⟩ := hS
  refine ⟨h1, h2, fun g hg hu => ?_, h4, ?_, h6⟩
  · have h7 := h3 g hg hu
    refine ⟨?_, h7.2⟩
    show upd (y_bg r) h (nI a) g = nI (va_up (hs_b S) h a g)
    by_cases q : g = h
    · subst q; rw [pk_us, va_up_self]
    · rw [pk_un q, va_up_ne _ _ q]; exact h7.1
  · show y_mv r = if a = hs_b S h then hs_m S else hs_m S + nI (hs_n S h)
    rw [if_pos he, h5]
/-- whose byte: one block at most has it -/
theorem hs_ow_s {S : hs_S} (hI : hs_I S) {a h : Nat} (hh : h < 48) (hu : hs_u S h = 2) (h1 : hs_b S h ≤ a) (h2 : a < hs_b S h + hs_n S h) : ∀ (d k : Nat), k + d = (hs_R S).length → (∃ j, k ≤ j ∧ j < (hs_R S).length ∧ hg_at (hs_R S) j = h) → hs_ow S a d k = some h := by
  intro d
  induction d with
  | zero => rintro k hk ⟨j, g1, g2, -⟩; omega
  | succ d ih =>
    rintro k hk ⟨j, g1, g2, g3⟩
    rw [hs_ow]
    by_cases q : hs_b S (hg_at (hs_R S) k) ≤ a ∧ a < hs_b S (hg_at (hs_R S) k) + hs_n S (hg_at (hs_R S) k)
    · rw [if_pos q]
      by_cases e : hg_at (hs_R S) k = h
      · rw [e]
      · have := hg_apart hI.1 (hg_at_mem (R := hs_R S) (k := k) (by omega)) ((hI.2.1 h).mpr ⟨hh, hu⟩) e
        omega
    · rw [if_neg q]
      refine ih (k + 1) (by omega) ⟨j, ?_, g2, g3⟩
      by_cases e : j = k
      · subst e; rw [g3] at q; exact absurd ⟨h1, h2⟩ q
      · omega
theorem hs_ow_n {S : hs_S} (hI : hs_I S) {a : Nat} (hno : ∀ g, g < 48 → hs_u S g = 2 → ¬ (hs_b S g ≤ a ∧ a < hs_b S g + hs_n S g)) : ∀ (d k : Nat), k + d = (hs_R S).length → hs_ow S a d k = none := by
  intro d
  induction d with
  | zero => intro k _; rfl
  | succ d ih =>
    intro k hk
    have h1 := hI.J.at (k := k) (by omega)
    rw [hs_ow, if_neg (hno _ h1.1 h1.2)]
    exact ih (k + 1) (by omega)
/-- told's count -/
def hs_tc (S : hs_S) (x : Nat) : Nat → Nat
  | 0 => 0
  | k + 1 => if hs_u S k ≠ 0 ∧ (x = 3 ∨ (x = 4 ∧ hs_n S k = 0)) then hs_tc S x k + 1 else hs_tc S x k
theorem hs_tc_3 {S : hs_S} : ∀ k, hs_tc S 3 k + hs_cn (hs_u S) 0 k = k := by
  intro k
  induction k with
  | zero => rfl
  | succ k ih =>
    rw [hs_tc, hs_cn]
    by_cases q : hs_u S k = 0
    · rw [if_neg (fun z => z.1 q), if_pos q]; omega
    · rw [if_pos ⟨q, Or.inl rfl⟩, if_neg q]; omega
theorem hs_tc_4 {S : hs_S} (hI : hs_I S) : ∀ k, k ≤ 48 → hs_tc S 4 k = hs_cn (hs_u S) 1 k := by
  intro k
  induction k with
  | zero => intro _; rfl
  | succ k ih =>
    intro hk
    rw [hs_tc, hs_cn, ih (by omega)]
    have h1 := hI.u2 (h := k) (by omega)
    have h2 := hI.n0 (h := k) (by omega)
    by_cases q : hs_u S k = 1
    · rw [if_pos ⟨by omega, Or.inr ⟨rfl, by omega⟩⟩, if_pos q]
    · rw [if_neg (fun z => by rcases z.2 with z2 | z2 <;> omega), if_neg q]
