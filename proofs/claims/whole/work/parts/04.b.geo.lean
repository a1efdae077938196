/-! THE STATE IN OUR OWN WORDS: a row R of handles as their blocks stand; b where a handle's block begins, n how many bytes it has. Gap k lies ahead of block k of the row, the last one behind all. -/
def hg_at (R : List Nat) (k : Nat) : Nat := R.getD k 0
def hg_gb (R : List Nat) (b n : Nat → Nat) (k : Nat) : Nat := if k = 0 then 0 else b (hg_at R (k - 1)) + n (hg_at R (k - 1))
def hg_ge (R : List Nat) (b : Nat → Nat) (k : Nat) : Nat := if k = R.length then 1024 else b (hg_at R k)
def hg_gl (R : List Nat) (b n : Nat → Nat) (k : Nat) : Nat := hg_ge R b k - hg_gb R b n k
/-- the blocks of the row stand behind one another within the 1024 bytes, none is of no byte -/
def hg_I (R : List Nat) (b n : Nat → Nat) : Prop := (∀ k, k ≤ R.length → hg_gb R b n k ≤ hg_ge R b k) ∧ ∀ k, k < R.length → 1 ≤ n (hg_at R k)
theorem hg_at_mem {R : List Nat} {k : Nat} (h : k < R.length) : hg_at R k ∈ R := by
  unfold hg_at
  rw [List.getD_eq_getElem?_getD, List.getElem?_eq_getElem h]
  exact List.getElem_mem h
theorem hg_at_of {R : List Nat} {h : Nat} (hm : h ∈ R) : ∃ k, k < R.length ∧ hg_at R k = h := by
  obtain ⟨k, hk, e⟩ := List.getElem_of_mem hm
  exact ⟨k, hk, by unfold hg_at; rw [List.getD_eq_getElem?_getD, List.getElem?_eq_getElem hk]; exact e⟩
theorem hg_gb0 {R : List Nat} {b n : Nat → Nat} : hg_gb R b n 0 = 0 := rfl
theorem hg_gbs {R : List Nat} {b n : Nat → Nat} (k : Nat) : hg_gb R b n (k + 1) = b (hg_at R k) + n (hg_at R k) := rfl
theorem hg_geL {R : List Nat} {b : Nat → Nat} : hg_ge R b R.length = 1024 := by unfold hg_ge; rw [if_pos rfl]
theorem hg_gek {R : List Nat} {b : Nat → Nat} {k : Nat} (h : k < R.length) : hg_ge R b k = b (hg_at R k) := by unfold hg_ge; rw [if_neg (by omega)]
theorem hg_lo {R : List Nat} {b n : Nat → Nat} (hI : hg_I R b n) {k : Nat} (h : k < R.length) : hg_gb R b n k ≤ b (hg_at R k) := by
  have h1 := hI.1 k (by omega)
  rw [hg_gek h] at h1
  exact h1
theorem hg_step {R : List Nat} {b n : Nat → Nat} (hI : hg_I R b n) {k : Nat} (h : k + 1 < R.length) : b (hg_at R k) + n (hg_at R k) ≤ b (hg_at R (k + 1)) := by
  have h1 := hg_lo hI h
  rw [hg_gbs] at h1
  exact h1
theorem hg_lt {R : List Nat} {b n : Nat → Nat} (hI : hg_I R b n) {i : Nat} : ∀ d, i + d + 1 < R.length → b (hg_at R i) + n (hg_at R i) ≤ b (hg_at R (i + d + 1)) := by
  intro d
  induction d with
  | zero => intro h; exact hg_step hI h
  | succ d ih =>
    intro h
    have h1 := ih (by omega)
    have h2 := hg_step (k := i + d + 1) hI (by omega)
    have h3 : b (hg_at R (i + (d + 1) + 1)) = b (hg_at R (i + d + 1 + 1)) := rfl
    omega
theorem hg_ord {R : List Nat} {b n : Nat → Nat} (hI : hg_I R b n) {i j : Nat} (hij : i < j) (hj : j < R.length) : b (hg_at R i) + n (hg_at R i) ≤ b (hg_at R j) := by
  have h1 := hg_lt hI (i := i) (j - i - 1) (by omega)
  rw [show i + (j - i - 1) + 1 = j by omega] at h1
  exact h1
theorem hg_end {R : List Nat} {b n : Nat → Nat} (hI : hg_I R b n) {k : Nat} (h : k < R.length) : b (hg_at R k) + n (hg_at R k) ≤ 1024 := by
  have h1 := hI.1 R.length (Nat.le_refl _)
  rw [hg_geL] at h1
  obtain ⟨z, hz⟩ : ∃ z, R.length = z + 1 := ⟨R.length - 1, by omega⟩
  rw [hz, hg_gbs] at h1
  by_cases hk : k = z
  · subst hk; exact h1
  · have h2 := hg_ord hI (i := k) (j := z) (by omega) (by omega)
    omega
theorem hg_inj {R : List Nat} {b n : Nat → Nat} (hI : hg_I R b n) {i j : Nat} (hi : i < R.length) (hj : j < R.length) (h : hg_at R i = hg_at R j) : i = j := by
  rcases Nat.lt_trichotomy i j with q | q | q
  · have h1 := hg_ord hI q hj
    have h2 := hI.2 i hi
    rw [h] at h1 h2; omega
  · exact q
  · have h1 := hg_ord hI q hi
    have h2 := hI.2 j hj
    rw [h] at h1; omega
theorem hg_gbge {R : List Nat} {b n : Nat → Nat} (hI : hg_I R b n) {i j : Nat} (hij : i < j) (hj : j ≤ R.length) : b (hg_at R i) + n (hg_at R i) ≤ hg_gb R b n j := by
  obtain ⟨z, rfl⟩ : ∃ z, j = z + 1 := ⟨j - 1, by omega⟩
  rw [hg_gbs]
  by_cases hk : i = z
  · subst hk; exact Nat.le_refl _
  · have h2 := hg_ord hI (i := i) (j := z) (by omega) (by omega)
    omega
theorem hg_gble {R : List Nat} {b n : Nat → Nat} (hI : hg_I R b n) {k : Nat} (hj : k ≤ R.length) : hg_gb R b n k ≤ 1024 := by
  cases k with
  | zero => rw [hg_gb0]; omega
  | succ k => rw [hg_gbs]; exact hg_end hI (by omega)
theorem hg_gele {R : List Nat} {b n : Nat → Nat} (hI : hg_I R b n) {k : Nat} (hj : k ≤ R.length) : hg_ge R b k ≤ 1024 := by
  by_cases h : k = R.length
  · rw [h, hg_geL]; exact Nat.le_refl _
  · have h1 := hg_end hI (k := k) (by omega)
    rw [hg_gek (by omega)]; omega
/-- two blocks of the row have no byte in common -/
theorem hg_apart {R : List Nat} {b n : Nat → Nat} (hI : hg_I R b n) {h g : Nat} (hh : h ∈ R) (hg : g ∈ R) (hne : h ≠ g) : b h + n h ≤ b g ∨ b g + n g ≤ b h := by
  obtain ⟨i, hi, rfl⟩ := hg_at_of hh
  obtain ⟨j, hj, rfl⟩ := hg_at_of hg
  rcases Nat.lt_trichotomy i j with q | q | q
  · exact Or.inl (hg_ord hI q hj)
  · subst q; exact absurd rfl hne
  · exact Or.inr (hg_ord hI q hi)
/-- a block of the row has no byte in a gap -/
theorem hg_off {R : List Nat} {b n : Nat → Nat} (hI : hg_I R b n) {h k : Nat} (hh : h ∈ R) (hk : k ≤ R.length) : b h + n h ≤ hg_gb R b n k ∨ hg_ge R b k ≤ b h := by
  obtain ⟨i, hi, rfl⟩ := hg_at_of hh
  by_cases q : i < k
  · exact Or.inl (hg_gbge hI q hk)
  · refine Or.inr ?_
    rw [hg_gek (by omega)]
    by_cases e : k = i
    · rw [e]; exact Nat.le_refl _
    · have := hg_ord hI (i := k) (j := i) (by omega) hi
      omega
/-- the geometry looks at the row's own handles alone -/
theorem hg_I_congr {R : List Nat} {b n b' n' : Nat → Nat} (hI : hg_I R b n) (hb : ∀ k, k < R.length → b' (hg_at R k) = b (hg_at R k)) (hn : ∀ k, k < R.length → n' (hg_at R k) = n (hg_at R k)) : hg_I R b' n' := by
  refine ⟨fun k hk => ?_, fun k hk => by rw [hn k hk]; exact hI.2 k hk⟩
  have h1 := hI.1 k hk
  have e1 : hg_gb R b' n' k = hg_gb R b n k := by
    cases k with
    | zero => rfl
    | succ k => rw [hg_gbs, hg_gbs, hb k (by omega), hn k (by omega)]
  have e2 : hg_ge R b' k = hg_ge R b k := by
    by_cases h : k = R.length
    · rw [h, hg_geL, hg_geL]
    · rw [hg_gek (by omega), hg_gek (by omega), hb k (by omega)]
  rw [e1, e2]; exact h1
/-- the same, said along the list: nothing of the row lies below lo -/
def hg_C (b n : Nat → Nat) : Nat → List Nat → Prop
  | lo, [] => lo ≤ 1024
  | lo, h :: t => lo ≤ b h ∧ 1 ≤ n h ∧ hg_C b n (b h + n h) t
theorem hg_C_mono {b n : Nat → Nat} : ∀ {R : List Nat} {lo lo' : Nat}, lo' ≤ lo → hg_C b n lo R → hg_C b n lo' R := by
  intro R
  cases R with
  | nil => intro lo lo' h1 h2; exact Nat.le_trans h1 h2
  | cons x t => intro lo lo' h1 h2; exact ⟨Nat.le_trans h1 h2.1, h2.2⟩
theorem hg_C_of {b n : Nat → Nat} : ∀ (R : List Nat) (lo : Nat), (∀ k, k ≤ R.length → (if k = 0 then lo else hg_gb R b n k) ≤ hg_ge R b k) → (∀ k, k < R.length → 1 ≤ n (hg_at R k)) → hg_C b n lo R := by
  intro R
  induction R with
  | nil =>
    intro lo h1 _
    have := h1 0 (Nat.le_refl _)
    rw [if_pos rfl] at this
    exact this
  | cons x t ih =>
    intro lo h1 h2
    refine ⟨?_, h2 0 (Nat.zero_lt_succ _), ih (b x + n x) (fun k hk => ?_) (fun k hk => h2 (k + 1) (Nat.succ_lt_succ hk))⟩
    · have h0 := h1 0 (Nat.zero_le _)
      rw [if_pos rfl, hg_gek (Nat.zero_lt_succ _)] at h0
      exact h0
    · have h3 := h1 (k + 1) (Nat.succ_le_succ hk)
      rw [if_neg (Nat.succ_ne_zero k), hg_gbs] at h3
      have e : hg_ge (x :: t) b (k + 1) = hg_ge t b k := by
        by_cases q : k = t.length
        · rw [q, hg_geL]; exact hg_geL (R := x :: t)
        · rw [hg_gek (R := t) (by omega), hg_gek (R := x :: t) (by rw [List.length_cons]; omega)]; rfl
      rw [e] at h3
      cases k with
      | zero => rw [if_pos rfl]; exact h3
      | succ k => rw [if_neg (Nat.succ_ne_zero k), hg_gbs]; exact h3
theorem hg_C_to {b n : Nat → Nat} : ∀ (R : List Nat) (lo : Nat), hg_C b n lo R → (∀ k, k ≤ R.length → (if k = 0 then lo else hg_gb R b n k) ≤ hg_ge R b k) ∧ (∀ k, k < R.length → 1 ≤ n (hg_at R k)) := by
  intro R
  induction R with
  | nil =>
    intro lo h
    refine ⟨fun k hk => ?_, fun k hk => absurd hk (Nat.not_lt_zero _)⟩
    have : k = 0 := Nat.le_zero.mp hk
    subst this
    rw [if_pos rfl]; exact h
  | cons x t ih =>
    intro lo h
    obtain ⟨h1, h2, h3⟩ := h
    obtain ⟨i1, i2⟩ := ih _ h3
    refine ⟨fun k hk => ?_, fun k hk => ?_⟩
    · cases k with
      | zero => rw [if_pos rfl, hg_gek (Nat.zero_lt_succ _)]; exact h1
      | succ k =>
        have h4 := i1 k (Nat.le_of_succ_le_succ hk)
        have e : hg_ge (x :: t) b (k + 1) = hg_ge t b k := by
          by_cases q : k = t.length
          · rw [q, hg_geL]; exact hg_geL (R := x :: t)
          · rw [hg_gek (R := t) (by rw [List.length_cons] at hk; omega), hg_gek (R := x :: t) (by rw [List.length_cons] at hk ⊢; omega)]; rfl
        rw [if_neg (Nat.succ_ne_zero k), hg_gbs, e]
        cases k with
        | zero => rw [if_pos rfl] at h4; exact h4
        | succ k => rw [if_neg (Nat.succ_ne_zero k), hg_gbs] at h4; exact h4
    · cases k with
      | zero => exact h2
      | succ k => exact i2 k (Nat.lt_of_succ_lt_succ hk)
theorem hg_IC {R : List Nat} {b n : Nat → Nat} : hg_I R b n ↔ hg_C b n 0 R := by
  constructor
  · intro h
    refine hg_C_of R 0 (fun k hk => ?_) h.2
    have h1 := h.1 k hk
    cases k with
    | zero => rw [if_pos rfl]; exact h1
    | succ k => rw [if_neg (Nat.succ_ne_zero k)]; exact h1
  · intro h
    obtain ⟨h1, h2⟩ := hg_C_to R 0 h
    refine ⟨fun k hk => ?_, h2⟩
    have h3 := h1 k hk
    cases k with
    | zero => rw [if_pos rfl] at h3; exact h3
    | succ k => rw [if_neg (Nat.succ_ne_zero k)] at h3; exact h3
/-- a handle leaves the row -/
def hg_out (R : List Nat) (h : Nat) : List Nat := R.filter (fun x => decide (x ≠ h))
theorem hg_out_mem {R : List Nat} {h x : Nat} : x ∈ hg_out R h ↔ x ∈ R ∧ x ≠ h := by
  unfold hg_out; rw [List.mem_filter]; simp
theorem hg_C_out {b n : Nat → Nat} {h : Nat} : ∀ {R : List Nat} {lo : Nat}, hg_C b n lo R → hg_C b n lo (hg_out R h) := by
  intro R
  induction R with
  | nil => intro lo q; exact q
  | cons x t ih =>
    intro lo q
    obtain ⟨q1, q2, q3⟩ := q
    by_cases e : x = h
    · have e2 : hg_out (x :: t) h = hg_out t h := by unfold hg_out; rw [List.filter_cons_of_neg (by simp [e])]
      rw [e2]
      exact ih (hg_C_mono (by omega) q3)
    · have e2 : hg_out (x :: t) h = x :: hg_out t h := by unfold hg_out; rw [List.filter_cons_of_pos (by simp [e])]
      rw [e2]
      exact ⟨q1, q2, ih q3⟩
theorem hg_C_congr {b n b' n' : Nat → Nat} : ∀ {R : List Nat} {lo : Nat}, (∀ x ∈ R, b' x = b x) → (∀ x ∈ R, n' x = n x) → hg_C b n lo R → hg_C b' n' lo R := by
  intro R
  induction R with
  | nil => intro lo _ _ q; exact q
  | cons x t ih =>
    intro lo hb hn q
    obtain ⟨q1, q2, q3⟩ := q
    have e1 := hb x List.mem_cons_self
    have e2 := hn x List.mem_cons_self
    refine ⟨by rw [e1]; exact q1, by rw [e2]; exact q2, ?_⟩
    rw [e1, e2]
    exact ih (fun y hy => hb y (List.mem_cons_of_mem _ hy)) (fun y hy => hn y (List.mem_cons_of_mem _ hy)) q3
/-- a handle comes into the row, ahead of the first block that begins higher -/
def hg_ins (b : Nat → Nat) (h : Nat) : List Nat → List Nat
  | [] => [h]
  | x :: t => if b h < b x then h :: x :: t else x :: hg_ins b h t
theorem hg_ins_mem {b : Nat → Nat} {h x : Nat} : ∀ {R : List Nat}, x ∈ hg_ins b h R ↔ x = h ∨ x ∈ R := by
  intro R
  induction R with
  | nil => simp [hg_ins]
  | cons y t ih =>
    unfold hg_ins
    by_cases q : b h < b y
    · rw [if_pos q]; simp
    · rw [if_neg q, List.mem_cons, ih, List.mem_cons]
      constructor
      · rintro (h1 | h1 | h1)
        · exact Or.inr (Or.inl h1)
        · exact Or.inl h1
        · exact Or.inr (Or.inr h1)
      · rintro (h1 | h1 | h1)
        · exact Or.inr (Or.inl h1)
        · exact Or.inl h1
        · exact Or.inr (Or.inr h1)
theorem hg_ins_len {b : Nat → Nat} {h : Nat} : ∀ {R : List Nat}, (hg_ins b h R).length = R.length + 1 := by
  intro R
  induction R with
  | nil => rfl
  | cons y t ih =>
    unfold hg_ins
    by_cases q : b h < b y
    · rw [if_pos q]; rfl
    · rw [if_neg q, List.length_cons, ih]; rfl
theorem hg_C_ins {b n : Nat → Nat} {h : Nat} (hn : 1 ≤ n h) (he : b h + n h ≤ 1024) : ∀ {R : List Nat} {lo : Nat}, hg_C b n lo R → lo ≤ b h → (∀ x ∈ R, b x + n x ≤ b h ∨ b h + n h ≤ b x) → hg_C b n lo (hg_ins b h R) := by
  intro R
  induction R with
  | nil => intro lo q hlo _; exact ⟨hlo, hn, he⟩
  | cons y t ih =>
    intro lo q hlo ha
    obtain ⟨q1, q2, q3⟩ := q
    have hy := ha y List.mem_cons_self
    unfold hg_ins
    by_cases z : b h < b y
    · rw [if_pos z]
      exact ⟨hlo, hn, by omega, q2, q3⟩
    · rw [if_neg z]
      exact ⟨q1, q2, ih q3 (by omega) (fun x hx => ha x (List.mem_cons_of_mem _ hx))⟩
theorem hg_I_out {R : List Nat} {b n : Nat → Nat} {h : Nat} (hI : hg_I R b n) : hg_I (hg_out R h) b n := hg_IC.mpr (hg_C_out (hg_IC.mp hI))
theorem hg_I_ins {R : List Nat} {b n : Nat → Nat} {h : Nat} (hI : hg_I R b n) (hn : 1 ≤ n h) (he : b h + n h ≤ 1024) (ha : ∀ x ∈ R, b x + n x ≤ b h ∨ b h + n h ≤ b x) : hg_I (hg_ins b h R) b n := hg_IC.mpr (hg_C_ins hn he (hg_IC.mp hI) (Nat.zero_le _) ha)
theorem hg_I_cg {R : List Nat} {b n b' n' : Nat → Nat} (hI : hg_I R b n) (hb : ∀ x ∈ R, b' x = b x) (hn : ∀ x ∈ R, n' x = n x) : hg_I R b' n' := hg_IC.mpr (hg_C_congr hb hn (hg_IC.mp hI))
/-- block k goes to the byte a, within what is free about it -/
theorem hg_I_move {R : List Nat} {b n : Nat → Nat} (hI : hg_I R b n) {k a : Nat} (hk : k < R.length) (h1 : hg_gb R b n k ≤ a) (h2 : a + n (hg_at R k) ≤ hg_ge R b (k + 1)) : hg_I R (va_up b (hg_at R k) a) n := by
  have eb : ∀ i, i < R.length → va_up b (hg_at R k) a (hg_at R i) = if i = k then a else b (hg_at R i) := by
    intro i hi
    by_cases q : i = k
    · subst q; rw [if_pos rfl, va_up_self]
    · rw [if_neg q, va_up_ne _ _ (fun e => q (hg_inj hI hi hk e))]
  refine ⟨fun j hj => ?_, hI.2⟩
  have g1 : hg_gb R (va_up b (hg_at R k) a) n j = if j = k + 1 then a + n (hg_at R k) else hg_gb R b n j := by
    cases j with
    | zero => rw [if_neg (by omega)]; rfl
    | succ i =>
      rw [hg_gbs, hg_gbs, eb i (by omega)]
      by_cases q : i = k
      · subst q; rw [if_pos rfl, if_pos rfl]
      · rw [if_neg q, if_neg (by omega)]
  have g2 : hg_ge R (va_up b (hg_at R k) a) j = if j = k then a else hg_ge R b j := by
    by_cases q : j = R.length
    · rw [q, hg_geL, if_neg (by omega), hg_geL]
    · rw [hg_gek (by omega), eb j (by omega)]
      by_cases q2 : j = k
      · rw [if_pos q2, if_pos q2]
      · rw [if_neg q2, if_neg q2, hg_gek (by omega)]
  rw [g1, g2]
  by_cases q : j = k + 1
  · subst q; rw [if_pos rfl, if_neg (by omega)]; exact h2
  · rw [if_neg q]
    by_cases q2 : j = k
    · subst q2; rw [if_pos rfl]; exact h1
    · rw [if_neg q2]; exact hI.1 j hj
/-- TO SLIDE: where the blocks begin when the first k of the row have been slid, and how many bytes have been moved -/
def hg_slb (R : List Nat) (n : Nat → Nat) (mv : Nat → Bool) (b : Nat → Nat) : Nat → (Nat → Nat)
  | 0 => b
  | k + 1 => if mv (hg_at R k) = true then va_up (hg_slb R n mv b k) (hg_at R k) (hg_gb R (hg_slb R n mv b k) n k) else hg_slb R n mv b k
def hg_slm (R : List Nat) (n : Nat → Nat) (mv : Nat → Bool) (b : Nat → Nat) (m : Int32) : Nat → Int32
  | 0 => m
  | k + 1 => if mv (hg_at R k) = true ∧ hg_gb R (hg_slb R n mv b k) n k ≠ b (hg_at R k) then hg_slm R n mv b m k + nI (n (hg_at R k)) else hg_slm R n mv b m k
theorem hg_sl_I {R : List Nat} {b n : Nat → Nat} {mv : Nat → Bool} (hI : hg_I R b n) : ∀ k, k ≤ R.length → hg_I R (hg_slb R n mv b k) n ∧ ∀ i, k ≤ i → i < R.length → hg_slb R n mv b k (hg_at R i) = b (hg_at R i) := by
  intro k
  induction k with
  | zero => intro _; exact ⟨hI, fun _ _ _ => rfl⟩
  | succ k ih =>
    intro hk
    obtain ⟨i1, i2⟩ := ih (by omega)
    unfold hg_slb
    by_cases q : mv (hg_at R k) = true
    · rw [if_pos q]
      have h3 := hg_lo i1 (k := k) (by omega)
      have h4 := i1.1 (k + 1) hk
      rw [hg_gbs] at h4
      refine ⟨hg_I_move i1 (by omega) (Nat.le_refl _) (by omega), fun i hi hl => ?_⟩
      rw [va_up_ne _ _ (fun e => by have := hg_inj hI hl (by omega) e; omega)]
      exact i2 i (by omega) hl
    · rw [if_neg q]
      exact ⟨i1, fun i hi hl => i2 i (by omega) hl⟩
theorem hg_sl_out {R : List Nat} {b n : Nat → Nat} {mv : Nat → Bool} {x : Nat} (hx : x ∉ R) : ∀ k, k ≤ R.length → hg_slb R n mv b k x = b x := by
  intro k
  induction k with
  | zero => intro _; rfl
  | succ k ih =>
    intro hk
    unfold hg_slb
    by_cases q : mv (hg_at R k) = true
    · rw [if_pos q, va_up_ne _ _ (fun e => hx (by rw [e]; exact hg_at_mem (by omega)))]
      exact ih (by omega)
    · rw [if_neg q]; exact ih (by omega)
