/-! small numbers, truth values; how the class's cells hold a state -/
def bI (b : Bool) : Int32 := if b = true then 1 else 0
theorem bI_nar (b : Bool) : vp_nar .boolean (bI b) = bI b := by cases b <;> decide
theorem bI_0 {b : Bool} : bI b = 0 ↔ b = false := by cases b <;> decide
/-- a number, or NONE -/
def oi (o : Option Nat) : Int32 := match o with
  | some k => nI k
  | none => -1
theorem n0_eq {a : Nat} (h : a < 2 ^ 31) : nI a = 0 ↔ a = 0 := by rw [← nI_0, nI_eq h (by decide)]
theorem n0_lt {a : Nat} (h : a < 2 ^ 31) : nI a < 0 ↔ False := ⟨fun q => nI_pos h q, fun q => q.elim⟩
theorem n0_ge {a : Nat} (h : a < 2 ^ 31) : 0 ≤ nI a ↔ True := ⟨fun _ => trivial, fun _ => nI_pos' h⟩
theorem n0_gt {a : Nat} (h : a < 2 ^ 31) : 0 < nI a ↔ 0 < a := by rw [← nI_0, nI_ltI (by decide) h]
theorem n0_le {a : Nat} (h : a < 2 ^ 31) : nI a ≤ 0 ↔ a = 0 := by rw [← nI_0, nI_leI h (by decide), Nat.le_zero]
theorem n0_ne {a : Nat} (h : a < 2 ^ 31) : nI a ≠ -1 := fun q => by
  have := nI_pos h
  rw [q] at this
  exact this (by decide)
theorem n0_ne2 {a : Nat} (h : a < 2 ^ 31) : nI a ≠ -2 := fun q => by
  have := nI_pos h
  rw [q] at this
  exact this (by decide)
theorem pg_le : ∀ (n : Nat) (R : List Nat), R.Nodup → (∀ x ∈ R, x < n) → R.length ≤ n := by
  intro n
  induction n with
  | zero =>
    intro R _ h
    cases R with
    | nil => exact Nat.le_refl _
    | cons x t => exact absurd (h x List.mem_cons_self) (Nat.not_lt_zero _)
  | succ n ih =>
    intro R hn h
    have h1 := ih (R.erase n) (hn.erase n) (fun x hx => by
      have h2 := (hn.mem_erase_iff).mp hx
      have h3 := h x h2.2
      have h4 := h2.1
      omega)
    by_cases hm : n ∈ R
    · rw [List.length_erase_of_mem hm] at h1
      omega
    · rw [List.erase_of_not_mem hm] at h1
      omega
theorem hg_nd {R : List Nat} {b n : Nat → Nat} (hI : hg_I R b n) : R.Nodup := by
  rw [List.Nodup, List.pairwise_iff_getElem]
  intro i j hi hj hij e
  have h1 : hg_at R i = hg_at R j := by
    unfold hg_at
    rw [List.getD_eq_getElem?_getD, List.getD_eq_getElem?_getD, List.getElem?_eq_getElem hi, List.getElem?_eq_getElem hj, e]
  have := hg_inj hI hi hj h1
  omega
/-- enough of a state to look at its gaps -/
def hs_J (S : hs_S) : Prop := hg_I (hs_R S) (hs_b S) (hs_n S) ∧ ∀ h, h ∈ hs_R S → h < 48 ∧ hs_u S h = 2
theorem hs_J.len {S : hs_S} (h : hs_J S) : (hs_R S).length ≤ 48 := pg_le 48 _ (hg_nd h.1) (fun x hx => (h.2 x hx).1)
theorem hs_J.at {S : hs_S} (h : hs_J S) {k : Nat} (hk : k < (hs_R S).length) : hg_at (hs_R S) k < 48 ∧ hs_u S (hg_at (hs_R S) k) = 2 := h.2 _ (hg_at_mem hk)
theorem hs_I.J {S : hs_S} (h : hs_I S) : hs_J S := ⟨h.1, fun x hx => (h.2.1 x).mp hx⟩
/-- what begin holds of a handle -/
def xb (u b : Nat) : Int32 := if u = 0 then -1 else if u = 1 then -2 else nI b
theorem xb_2 {u b : Nat} (h : u = 2) : xb u b = nI b := by unfold xb; rw [if_neg (by omega), if_neg (by omega)]
/-- the class's cells hold the state S -/
def rx (S : hs_S) (r : xr) : Prop :=
  (∀ h, h < 48 → x_bg r h = xb (hs_u S h) (hs_b S h)) ∧ (∀ h, h < 48 → x_ln r h = nI (hs_n S h)) ∧
  (∀ h, h < 48 → hs_u S h = 2 → x_fx r h = bI (hs_f S h) ∧ x_lk r h = bI (hs_l S h) ∧ x_ls r h = bI (hs_o S h)) ∧
  (x_nb r = nI (hs_R S).length ∧ ∀ k, k < (hs_R S).length → x_rw r k = nI (hg_at (hs_R S) k)) ∧
  (∀ h, h < 48 → hs_u S h = 2 → ∀ i, i < hs_n S h → x_hp r (hs_b S h + i) = hs_y S h i) ∧ x_mv r = hs_m S ∧ x_lo r = hs_x S
theorem hs_gl_le {S : hs_S} (hJ : hs_J S) {k : Nat} (hk : k ≤ (hs_R S).length) : hs_gl S k ≤ 1024 := Nat.le_trans (Nat.sub_le _ _) (hg_gele hJ.1 hk)
theorem hs_mx_le {S : hs_S} (hJ : hs_J S) : ∀ k, k ≤ (hs_R S).length + 1 → hs_mx S k ≤ 1024 := by
  intro k
  induction k with
  | zero => intro _; exact Nat.zero_le _
  | succ k ih =>
    intro hk
    have h1 := ih (by omega)
    have h2 := hs_gl_le hJ (k := k) (by omega)
    show max (hs_mx S k) (hs_gl S k) ≤ 1024
    omega
theorem hs_mx_st {S : hs_S} {k : Nat} (h1 : hs_mx S k < 2 ^ 31) (h2 : hs_gl S k < 2 ^ 31) : (if nI (hs_mx S k) < nI (hs_gl S k) then nI (hs_gl S k) else nI (hs_mx S k)) = nI (hs_mx S (k + 1)) := by
  have e : hs_mx S (k + 1) = max (hs_mx S k) (hs_gl S k) := rfl
  by_cases q : hs_mx S k < hs_gl S k
  · rw [if_pos ((nI_ltI h1 h2).mpr q), e, Nat.max_eq_right (Nat.le_of_lt q)]
  · rw [if_neg (fun z => q ((nI_ltI h1 h2).mp z)), e, Nat.max_eq_left (Nat.not_lt.mp q)]
