/-! the state's own steps: what holds of them, and that the class's cells follow -/
theorem xb_lt {v a b : Nat} (h : v < 2) : xb v a = xb v b := by
  unfold xb
  by_cases q : v = 0
  · rw [if_pos q, if_pos q]
  · rw [if_neg q, if_neg q, if_pos (by omega), if_pos (by omega)]
theorem hs_tk_I {S : hs_S} (hI : hs_I S) {h v : Nat} (hv : v < 2) : hs_I (hs_tk S h v) := by
  obtain ⟨h1, h2, h3⟩ := hI
  refine ⟨hg_I_cg (hg_I_out (h := h) h1) (fun x _ => rfl) (fun x hx => ?_), fun x => ?_, fun x hx hu => ?_⟩
  · exact va_up_ne _ _ (hg_out_mem.mp hx).2
  · show x ∈ hg_out (hs_R S) h ↔ x < 48 ∧ va_up (hs_u S) h v x = 2
    rw [hg_out_mem, h2 x]
    by_cases e : x = h
    · subst e
      rw [va_up_self]
      constructor
      · rintro ⟨-, q⟩; exact absurd rfl q
      · rintro ⟨-, q⟩; omega
    · rw [va_up_ne _ _ e]
      constructor
      · rintro ⟨q, -⟩; exact q
      · intro q; exact ⟨q, e⟩
  · have hu : va_up (hs_u S) h v x ≠ 2 := hu
    show va_up (hs_n S) h 0 x = 0 ∧ va_up (hs_u S) h v x < 2
    by_cases e : x = h
    · subst e; rw [va_up_self, va_up_self]; exact ⟨rfl, hv⟩
    · rw [va_up_ne _ _ e] at hu ⊢; rw [va_up_ne _ _ e]; exact h3 x hx hu
theorem hs_gu_I {S : hs_S} (hI : hs_I S) {h : Nat} : hs_I (hs_gu S h) := hs_tk_I hI (h := h) (v := 1) (by omega)
theorem rx_tk {S : hs_S} {r : xr} (hS : rx S r) {h v : Nat} (hh : h < 48) (hv : v < 2) {w : Nat → Int32} (hw : ∀ k, k < (hg_out (hs_R S) h).length → w k = nI (hg_at (hg_out (hs_R S) h) k)) :
    rx (hs_tk S h v) (xs_ln (xs_bg (xs_nb (xs_rw r w) (nI (hg_out (hs_R S) h).length)) (upd (x_bg r) h (xb v 0))) (upd (x_ln r) h (nI 0))) := by
  obtain ⟨h1, h2, h3, h4, h5, h6, h7⟩ := hS
  refine ⟨fun g hg => ?_, fun g hg => ?_, fun g hg hu => ?_, ⟨rfl, hw⟩, fun g hg hu i hi => ?_, h6, h7⟩
  · show upd (x_bg r) h (xb v 0) g = xb (va_up (hs_u S) h v g) (hs_b S g)
    by_cases e : g = h
    · subst e; rw [pk_us, va_up_self]; exact xb_lt hv
    · rw [pk_un e, va_up_ne _ _ e]; exact h1 g hg
  · show upd (x_ln r) h (nI 0) g = nI (va_up (hs_n S) h 0 g)
    by_cases e : g = h
    · subst e; rw [pk_us, va_up_self]
    · rw [pk_un e, va_up_ne _ _ e]; exact h2 g hg
  · have hu : va_up (hs_u S) h v g = 2 := hu
    have e : g ≠ h := fun e => by subst e; rw [va_up_self] at hu; omega
    rw [va_up_ne _ _ e] at hu
    exact h3 g hg hu
  · have hu : va_up (hs_u S) h v g = 2 := hu
    have hi : i < va_up (hs_n S) h 0 g := hi
    have e : g ≠ h := fun e => by subst e; rw [va_up_self] at hu; omega
    rw [va_up_ne _ _ e] at hu hi
    exact h5 g hg hu i hi
theorem rx_lo {S : hs_S} {r : xr} {h : Nat} (hS : rx (hs_tk S h 1) r) : rx (hs_gu S h) (xs_lo r (x_lo r + 1)) := by
  obtain ⟨h1, h2, h3, h4, h5, h6, h7⟩ := hS
  exact ⟨h1, h2, h3, h4, h5, h6, by show x_lo r + 1 = hs_x S + 1; rw [h7]; rfl⟩
/-- a block goes to another byte -/
theorem rx_go {S : hs_S} {r : xr} (hS : rx S r) {h a : Nat} (hh : h < 48) (hu : hs_u S h = 2) (hd : ∀ g, g < 48 → g ≠ h → hs_u S g = 2 → hs_b S g + hs_n S g ≤ a ∨ a + hs_n S h ≤ hs_b S g) :
    rx (hs_go S h a) (if a = hs_b S h then r else xs_mv (xs_bg (xs_hp r (va_cpy (x_hp r) (x_hp r) (hs_b S h) a (hs_n S h))) (upd (x_bg r) h (nI a))) (x_mv r + nI (hs_n S h))) := by
  obtain ⟨h1, h2, h3, h4, h5, h6, h7⟩ := hS
  by_cases e : a = hs_b S h
  · rw [if_pos e]
    have e1 : va_up (hs_b S) h a = hs_b S := by
      funext g
      by_cases q : g = h
      · subst q; rw [va_up_self]; exact e
      · rw [va_up_ne _ _ q]
    have e2 : hs_go S h a = S := by
      unfold hs_go
      rw [e1, if_pos e]
      rfl
    rw [e2]
    exact ⟨h1, h2, h3, h4, h5, h6, h7⟩
  · rw [if_neg e]
    refine ⟨fun g hg => ?_, h2, h3, h4, fun g hg hug i hi => ?_, ?_, h7⟩
    · show upd (x_bg r) h (nI a) g = xb (hs_u S g) (va_up (hs_b S) h a g)
      by_cases q : g = h
      · subst q; rw [pk_us, va_up_self, xb_2 hu]
      · rw [pk_un q, va_up_ne _ _ q]; exact h1 g hg
    · have hug : hs_u S g = 2 := hug
      have hi : i < hs_n S g := hi
      show va_cpy (x_hp r) (x_hp r) (hs_b S h) a (hs_n S h) (va_up (hs_b S) h a g + i) = hs_y S g i
      by_cases q : g = h
      · subst q
        rw [va_up_self, pk_cpy_in (by omega) (by omega), show hs_b S g + (a + i - a) = hs_b S g + i by omega]
        exact h5 g hg hug i hi
      · rw [va_up_ne _ _ q, pk_cpy_out (by have := hd g hg q hug; omega)]
        exact h5 g hg hug i hi
    · show x_mv r + nI (hs_n S h) = if a = hs_b S h then hs_m S else hs_m S + nI (hs_n S h)
      rw [if_neg e, h6]
/-- it gets n bytes where it stands -/
theorem rx_sz {S : hs_S} {r : xr} (hS : rx S r) {h n : Nat} (hh : h < 48) (hu : hs_u S h = 2) (hd : ∀ g, g < 48 → g ≠ h → hs_u S g = 2 → hs_b S g + hs_n S g ≤ hs_b S h ∨ hs_b S h + n ≤ hs_b S g) :
    rx (hs_sz S h n) (xs_ln (xs_hp r (fun j => if hs_b S h + hs_n S h ≤ j ∧ j < hs_b S h + n then 0 else x_hp r j)) (upd (x_ln r) h (nI n))) := by
  obtain ⟨h1, h2, h3, h4, h5, h6, h7⟩ := hS
  refine ⟨h1, fun g hg => ?_, h3, h4, fun g hg hug i hi => ?_, h6, h7⟩
  · show upd (x_ln r) h (nI n) g = nI (va_up (hs_n S) h n g)
    by_cases q : g = h
    · subst q; rw [pk_us, va_up_self]
    · rw [pk_un q, va_up_ne _ _ q]; exact h2 g hg
  · have hug : hs_u S g = 2 := hug
    have hi : i < va_up (hs_n S) h n g := hi
    show (if hs_b S h + hs_n S h ≤ hs_b S g + i ∧ hs_b S g + i < hs_b S h + n then 0 else x_hp r (hs_b S g + i)) = va_up (hs_y S) h (fun i => if hs_n S h ≤ i then 0 else hs_y S h i) g i
    by_cases q : g = h
    · subst q
      rw [va_up_self] at hi ⊢
      by_cases q2 : hs_n S g ≤ i
      · rw [if_pos (by omega), if_pos q2]
      · rw [if_neg (by omega), if_neg q2]; exact h5 g hg hug i (by omega)
    · rw [va_up_ne _ _ q] at hi ⊢
      have := hd g hg q hug
      rw [if_neg (by omega)]
      exact h5 g hg hug i hi
/-- only the row changes -/
def hs_row (S : hs_S) (R : List Nat) : hs_S := (R, hs_b S, hs_n S, hs_u S, hs_f S, hs_l S, hs_o S, hs_y S, hs_m S, hs_x S)
theorem rx_row {S : hs_S} {r : xr} (hS : rx S r) {R : List Nat} {w : Nat → Int32} (hw : ∀ k, k < R.length → w k = nI (hg_at R k)) : rx (hs_row S R) (xs_nb (xs_rw r w) (nI R.length)) := by
  obtain ⟨h1, h2, h3, h4, h5, h6, h7⟩ := hS
  exact ⟨h1, h2, h3, ⟨rfl, hw⟩, h5, h6, h7⟩
/-- a handle without a block gets one of no byte at a, not fixed, not locked, not losable or as told; then its length is set -/
def hs_at (S : hs_S) (h a : Nat) : hs_S := (hs_R S, va_up (hs_b S) h a, va_up (hs_n S) h 0, va_up (hs_u S) h 2, hs_f S, hs_l S, hs_o S, hs_y S, hs_m S, hs_x S)
theorem rx_mk {S : hs_S} {r : xr} (hS : rx S r) {h a n : Nat} {fx : Bool} (hh : h < 48) (hu : hs_u S h ≠ 2) (hn0 : hs_n S h = 0) (hd : ∀ g, g < 48 → hs_u S g = 2 → hs_b S g + hs_n S g ≤ a ∨ a + n ≤ hs_b S g) {w : Nat → Int32} (hw : ∀ k, k < (hs_R S).length + 1 → w k = nI (hg_at (hg_ins (va_up (hs_b S) h a) h (hs_R S)) k)) :
    rx (hs_mk S h a n fx) (xs_nb (xs_rw (xs_ls (xs_lk (xs_fx (xs_ln (xs_hp (xs_bg r (upd (x_bg r) h (nI a))) (fun j => if a + 0 ≤ j ∧ j < a + n then 0 else x_hp r j)) (upd (x_ln r) h (nI n))) (upd (x_fx r) h (bI fx))) (upd (x_lk r) h (nI 0))) (upd (x_ls r) h (nI 0))) w) (nI ((hs_R S).length + 1))) := by
  obtain ⟨h1, h2, h3, h4, h5, h6, h7⟩ := hS
  have hlen : (hs_R (hs_mk S h a n fx)).length = (hs_R S).length + 1 := hg_ins_len
  refine ⟨fun g hg => ?_, fun g hg => ?_, fun g hg hug => ?_, ⟨by rw [hlen]; rfl, fun k hk => hw k (by rw [hlen] at hk; exact hk)⟩, fun g hg hug i hi => ?_, h6, h7⟩
  · show upd (x_bg r) h (nI a) g = xb (va_up (hs_u S) h 2 g) (va_up (hs_b S) h a g)
    by_cases q : g = h
    · subst q; rw [pk_us, va_up_self, va_up_self, xb_2 rfl]
    · rw [pk_un q, va_up_ne _ _ q, va_up_ne _ _ q]; exact h1 g hg
  · show upd (x_ln r) h (nI n) g = nI (va_up (hs_n S) h n g)
    by_cases q : g = h
    · subst q; rw [pk_us, va_up_self]
    · rw [pk_un q, va_up_ne _ _ q]; exact h2 g hg
  · have hug : va_up (hs_u S) h 2 g = 2 := hug
    show upd (x_fx r) h (bI fx) g = bI (va_up (hs_f S) h fx g) ∧ upd (x_lk r) h (nI 0) g = bI (va_up (hs_l S) h false g) ∧ upd (x_ls r) h (nI 0) g = bI (va_up (hs_o S) h false g)
    by_cases q : g = h
    · subst q; rw [pk_us, pk_us, pk_us, va_up_self, va_up_self, va_up_self]; exact ⟨rfl, rfl, rfl⟩
    · rw [pk_un q, pk_un q, pk_un q, va_up_ne _ _ q, va_up_ne _ _ q, va_up_ne _ _ q]
      rw [va_up_ne _ _ q] at hug
      exact h3 g hg hug
  · have hug : va_up (hs_u S) h 2 g = 2 := hug
    have hi : i < va_up (hs_n S) h n g := hi
    show (if a + 0 ≤ va_up (hs_b S) h a g + i ∧ va_up (hs_b S) h a g + i < a + n then 0 else x_hp r (va_up (hs_b S) h a g + i)) = va_up (hs_y S) h (fun _ => 0) g i
    by_cases q : g = h
    · subst q
      rw [va_up_self] at hi ⊢
      rw [va_up_self, if_pos (by omega)]
    · rw [va_up_ne _ _ q] at hi hug ⊢
      rw [va_up_ne _ _ q]
      have := hd g hg hug
      rw [if_neg (by omega)]
      exact h5 g hg hug i hi
/-- it goes elsewhere and grows there -/
theorem rx_gr {S : hs_S} {r : xr} (hS : rx S r) {h a n : Nat} (hh : h < 48) (hu : hs_u S h = 2) (hne : a ≠ hs_b S h) (hn : hs_n S h ≤ n) (hd : ∀ g, g < 48 → g ≠ h → hs_u S g = 2 → hs_b S g + hs_n S g ≤ a ∨ a + n ≤ hs_b S g) {r1 r2 r3 : xr} {w1 w2 : Nat → Int32}
    (e1 : r1 = xs_nb (xs_rw r w1) (nI (hg_out (hs_R S) h).length)) (e2 : r2 = if a = hs_b S h then r1 else xs_mv (xs_bg (xs_hp r1 (va_cpy (x_hp r1) (x_hp r1) (hs_b S h) a (hs_n S h))) (upd (x_bg r1) h (nI a))) (x_mv r1 + nI (hs_n S h))) (e3 : r3 = xs_nb (xs_rw r2 w2) (nI ((hg_out (hs_R S) h).length + 1)))
    (hw : ∀ k, k < (hg_out (hs_R S) h).length + 1 → w2 k = nI (hg_at (hg_ins (va_up (hs_b S) h a) h (hg_out (hs_R S) h)) k)) :
    rx (hs_gr S h a n) (xs_ln (xs_hp r3 (fun j => if a + hs_n S h ≤ j ∧ j < a + n then 0 else x_hp r3 j)) (upd (x_ln r3) h (nI n))) := by
  obtain ⟨h1, h2, h3, h4, h5, h6, h7⟩ := hS
  rw [if_neg hne] at e2
  subst e1; subst e2; subst e3
  have hlen : (hs_R (hs_gr S h a n)).length = (hg_out (hs_R S) h).length + 1 := hg_ins_len
  refine ⟨fun g hg => ?_, fun g hg => ?_, h3, ⟨by rw [hlen]; rfl, fun k hk => hw k (by rw [hlen] at hk; exact hk)⟩, fun g hg hug i hi => ?_, ?_, h7⟩
  · show upd (x_bg r) h (nI a) g = xb (hs_u S g) (va_up (hs_b S) h a g)
    by_cases q : g = h
    · subst q; rw [pk_us, va_up_self, xb_2 hu]
    · rw [pk_un q, va_up_ne _ _ q]; exact h1 g hg
  · show upd (x_ln r) h (nI n) g = nI (va_up (hs_n S) h n g)
    by_cases q : g = h
    · subst q; rw [pk_us, va_up_self]
    · rw [pk_un q, va_up_ne _ _ q]; exact h2 g hg
  · have hug : hs_u S g = 2 := hug
    have hi : i < va_up (hs_n S) h n g := hi
    show (if a + hs_n S h ≤ va_up (hs_b S) h a g + i ∧ va_up (hs_b S) h a g + i < a + n then 0 else va_cpy (x_hp r) (x_hp r) (hs_b S h) a (hs_n S h) (va_up (hs_b S) h a g + i)) = va_up (hs_y S) h (fun i => if hs_n S h ≤ i then 0 else hs_y S h i) g i
    by_cases q : g = h
    · subst q
      rw [va_up_self] at hi
      rw [va_up_self, va_up_self]
      by_cases q2 : hs_n S g ≤ i
      · rw [if_pos (by omega), if_pos q2]
      · rw [if_neg (by omega), if_neg q2, pk_cpy_in (by omega) (by omega), show hs_b S g + (a + i - a) = hs_b S g + i by omega]
        exact h5 g hg hug i (by omega)
    · rw [va_up_ne _ _ q] at hi
      rw [va_up_ne _ _ q, va_up_ne _ _ q]
      have := hd g hg q hug
      rw [if_neg (by omega), pk_cpy_out (by omega)]
      exact h5 g hg hug i hi
  · show x_mv r + nI (hs_n S h) = hs_m S + nI (hs_n S h)
    rw [h6]
/-- the slid states -/
theorem hs_slk_I {S : hs_S} (hI : hs_I S) {k : Nat} (hk : k ≤ (hs_R S).length) : hs_I (hs_slk S k) := ⟨(hg_sl_I hI.1 k hk).1, hI.2.1, hI.2.2⟩
theorem hs_sl_I {S : hs_S} (hI : hs_I S) : hs_I (hs_sl S) := hs_slk_I hI (Nat.le_refl _)
theorem hs_slk_s {S : hs_S} (hI : hs_I S) {k : Nat} (hk : k < (hs_R S).length) : hs_slk S (k + 1) = if hs_mv S (hg_at (hs_R S) k) = true then hs_go (hs_slk S k) (hg_at (hs_R S) k) (hs_gb (hs_slk S k) k) else hs_slk S k := by
  have e0 := (hg_sl_I (mv := hs_mv S) hI.1 k (by omega)).2 k (Nat.le_refl _) hk
  by_cases q : hs_mv S (hg_at (hs_R S) k) = true
  · rw [if_pos q]
    unfold hs_slk hs_go
    have e1 : hg_slb (hs_R S) (hs_n S) (hs_mv S) (hs_b S) (k + 1) = va_up (hg_slb (hs_R S) (hs_n S) (hs_mv S) (hs_b S) k) (hg_at (hs_R S) k) (hg_gb (hs_R S) (hg_slb (hs_R S) (hs_n S) (hs_mv S) (hs_b S) k) (hs_n S) k) := by rw [hg_slb, if_pos q]
    have e2 : hg_slm (hs_R S) (hs_n S) (hs_mv S) (hs_b S) (hs_m S) (k + 1) = if hg_gb (hs_R S) (hg_slb (hs_R S) (hs_n S) (hs_mv S) (hs_b S) k) (hs_n S) k = hg_slb (hs_R S) (hs_n S) (hs_mv S) (hs_b S) k (hg_at (hs_R S) k) then hg_slm (hs_R S) (hs_n S) (hs_mv S) (hs_b S) (hs_m S) k else hg_slm (hs_R S) (hs_n S) (hs_mv S) (hs_b S) (hs_m S) k + nI (hs_n S (hg_at (hs_R S) k)) := by
      rw [hg_slm, e0]
      by_cases z : hg_gb (hs_R S) (hg_slb (hs_R S) (hs_n S) (hs_mv S) (hs_b S) k) (hs_n S) k = hs_b S (hg_at (hs_R S) k)
      · rw [if_pos z, if_neg (fun y => y.2 z)]
      · rw [if_neg z, if_pos ⟨q, z⟩]
    rw [e1, e2]
    rfl
  · rw [if_neg q]
    unfold hs_slk
    have e1 : hg_slb (hs_R S) (hs_n S) (hs_mv S) (hs_b S) (k + 1) = hg_slb (hs_R S) (hs_n S) (hs_mv S) (hs_b S) k := by rw [hg_slb, if_neg q]
    have e2 : hg_slm (hs_R S) (hs_n S) (hs_mv S) (hs_b S) (hs_m S) (k + 1) = hg_slm (hs_R S) (hs_n S) (hs_mv S) (hs_b S) (hs_m S) k := by rw [hg_slm, if_neg (fun y => q y.1)]
    rw [e1, e2]
/-- the target of a slide is free of the others -/
theorem hs_sl_d {T : hs_S} (hI : hs_I T) {k : Nat} (hk : k < (hs_R T).length) : ∀ g, g < 48 → g ≠ hg_at (hs_R T) k → hs_u T g = 2 → hs_b T g + hs_n T g ≤ hs_gb T k ∨ hs_gb T k + hs_n T (hg_at (hs_R T) k) ≤ hs_b T g := by
  intro g hg hne hu
  obtain ⟨j, hj, rfl⟩ := hg_at_of ((hI.2.1 g).mpr ⟨hg, hu⟩)
  rcases Nat.lt_trichotomy j k with q | q | q
  · exact Or.inl (hg_gbge hI.1 q (by omega))
  · subst q; exact absurd rfl hne
  · have h1 := hg_ord hI.1 q hj
    have h2 := hg_lo hI.1 hk
    refine Or.inr ?_
    have h3 : hs_gb T k ≤ hs_b T (hg_at (hs_R T) k) := h2
    omega
theorem hs_fk_ok {S : hs_S} {n : Nat} : ∀ (d k j : Nat), hs_fk S n d k = some j → k ≤ j ∧ j < k + d ∧ n ≤ hs_gl S j := by
  intro d
  induction d with
  | zero => intro k j h; cases h
  | succ d ih =>
    intro k j h
    rw [hs_fk] at h
    by_cases q : n ≤ hs_gl S k
    · rw [if_pos q] at h
      cases h
      exact ⟨Nat.le_refl _, by omega, q⟩
    · rw [if_neg q] at h
      have := ih (k + 1) j h
      exact ⟨by omega, by omega, this.2.2⟩
theorem hs_pk_ok {S : hs_S} {n j : Nat} (h : hs_pk S n = some j) : j ≤ (hs_R S).length ∧ n ≤ hs_gl S j := by
  have := hs_fk_ok _ _ _ h
  exact ⟨by omega, this.2.2⟩
theorem hs_lf_ok {S : hs_S} {but : Nat} : ∀ (d k h : Nat), hs_lf S but d k = some h → k + d ≤ (hs_R S).length → h ∈ hs_R S ∧ h ≠ but ∧ hs_o S h = true ∧ hs_mv S h = true := by
  intro d
  induction d with
  | zero => intro k h e; cases e
  | succ d ih =>
    intro k h e hk
    rw [hs_lf] at e
    by_cases q : hg_at (hs_R S) k ≠ but ∧ hs_o S (hg_at (hs_R S) k) = true ∧ hs_mv S (hg_at (hs_R S) k) = true
    · rw [if_pos q] at e
      cases e
      exact ⟨hg_at_mem (by omega), q⟩
    · rw [if_neg q] at e
      exact ih (k + 1) h e (by omega)
theorem hs_l1_ok {S : hs_S} {but h : Nat} (e : hs_l1 S but = some h) : h ∈ hs_R S ∧ h ≠ but ∧ hs_o S h = true ∧ hs_mv S h = true := hs_lf_ok _ _ _ e (by omega)
/-- what ROOM leaves as it was: the handles without a block, and the one that asks -/
def hs_same (but : Nat) (S T : hs_S) : Prop := hs_I T ∧ (∀ g, g < 48 → hs_u S g ≠ 2 → hs_u T g = hs_u S g) ∧ (but < 48 → hs_u S but = 2 → hs_u T but = 2 ∧ hs_n T but = hs_n S but)
theorem hs_same.sl {but : Nat} {S T : hs_S} (h : hs_same but S T) : hs_same but S (hs_sl T) := ⟨hs_sl_I h.1, h.2.1, h.2.2⟩
theorem hs_same.gu {but : Nat} {S T : hs_S} (h : hs_same but S T) {x : Nat} (hx : x ∈ hs_R T) (hne : x ≠ but) : hs_same but S (hs_gu T x) := by
  have hx2 := (h.1.2.1 x).mp hx
  refine ⟨hs_gu_I h.1, fun g hg hu => ?_, fun hb hu => ?_⟩
  · have h1 := h.2.1 g hg hu
    show va_up (hs_u T) x 1 g = hs_u S g
    have e : g ≠ x := fun e => by subst e; rw [hx2.2] at h1; exact hu h1.symm
    rw [va_up_ne _ _ e]; exact h1
  · have h1 := h.2.2 hb hu
    show va_up (hs_u T) x 1 but = 2 ∧ va_up (hs_n T) x 0 but = hs_n S but
    rw [va_up_ne _ _ (Ne.symm hne), va_up_ne _ _ (Ne.symm hne)]; exact h1
theorem hs_rm_ok {S : hs_S} {n but : Nat} : ∀ (d : Nat) (T : hs_S), hs_same but S T → hs_same but S (hs_rm n but d T).1 ∧ ∀ k, (hs_rm n but d T).2 = some k → k ≤ (hs_R (hs_rm n but d T).1).length ∧ n ≤ hs_gl (hs_rm n but d T).1 k := by
  intro d
  induction d with
  | zero => intro T h; exact ⟨h, fun k e => hs_pk_ok e⟩
  | succ d ih =>
    intro T h
    rw [hs_rm]
    cases e : hs_pk T n with
    | some k => exact ⟨h, fun j e2 => by cases e2; exact hs_pk_ok e⟩
    | none =>
      dsimp only
      cases e1 : hs_l1 T but with
      | none => exact ⟨h, fun j e2 => by cases e2⟩
      | some x =>
        have hx := hs_l1_ok e1
        exact ih _ ((h.gu hx.1 hx.2.1).sl)
theorem hs_room_ok {S : hs_S} (hI : hs_I S) (n but : Nat) : hs_same but S (hs_room S n but).1 ∧ ∀ k, (hs_room S n but).2 = some k → k ≤ (hs_R (hs_room S n but).1).length ∧ n ≤ hs_gl (hs_room S n but).1 k := by
  have h0 : hs_same but S S := ⟨hI, fun _ _ _ => rfl, fun _ h => ⟨h, rfl⟩⟩
  unfold hs_room
  cases e : hs_pk S n with
  | some k => exact ⟨h0, fun j e2 => by cases e2; exact hs_pk_ok e⟩
  | none => exact hs_rm_ok 48 _ h0.sl
/-- a gap that has n bytes is free of every block -/
theorem hs_gap_d {S : hs_S} (hI : hs_I S) {k n : Nat} (hk : k ≤ (hs_R S).length) (hn : n ≤ hs_gl S k) : ∀ g, g < 48 → hs_u S g = 2 → hs_b S g + hs_n S g ≤ hs_gb S k ∨ hs_gb S k + n ≤ hs_b S g := by
  intro g hg hu
  have h1 := hg_off hI.1 ((hI.2.1 g).mpr ⟨hg, hu⟩) hk
  have h2 := hI.1.1 k hk
  have h3 : n ≤ hg_ge (hs_R S) (hs_b S) k - hg_gb (hs_R S) (hs_b S) (hs_n S) k := hn
  have h4 : hs_gb S k = hg_gb (hs_R S) (hs_b S) (hs_n S) k := rfl
  omega
theorem hs_gap_e {S : hs_S} (hI : hs_I S) {k n : Nat} (hk : k ≤ (hs_R S).length) (hn : n ≤ hs_gl S k) : hs_gb S k + n ≤ 1024 := by
  have h1 := hg_gele hI.1 hk
  have h2 := hI.1.1 k hk
  have h3 : n ≤ hg_ge (hs_R S) (hs_b S) k - hg_gb (hs_R S) (hs_b S) (hs_n S) k := hn
  have h4 : hs_gb S k = hg_gb (hs_R S) (hs_b S) (hs_n S) k := rfl
  omega
