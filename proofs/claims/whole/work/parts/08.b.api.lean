/-! the calls' values, case by case -/
theorem nd_no {lo hi : Nat} {x : Int32} (hh : hi < 2 ^ 31) (hl : lo ≤ hi) (h : ¬ ∃ k, lo ≤ k ∧ k ≤ hi ∧ x = nI k) : nd lo hi x = none := by
  rcases nd_cases lo hi x hh hl with ⟨k, h1, h2, h3, -⟩ | ⟨h4, -⟩
  · exact absurd ⟨k, h1, h2, h3⟩ h
  · exact h4
theorem ex1 {t : sp_T} {S : hs_S} {E : String} (h : t = (1, 0, S)) (hE : E = xIA) : t.1 ≠ 0 ∧ ex t.1 E := by rw [h]; exact ⟨Nat.succ_ne_zero _, Or.inl ⟨rfl, hE⟩⟩
theorem ex2 {t : sp_T} {S : hs_S} {E : String} (h : t = (2, 0, S)) (hE : E = xIS) : t.1 ≠ 0 ∧ ex t.1 E := by rw [h]; exact ⟨Nat.succ_ne_zero _, Or.inr (Or.inl ⟨rfl, hE⟩)⟩
theorem ex3 {t : sp_T} {S : hs_S} {E : String} (h : t = (3, 0, S)) (hE : E = xIO) : t.1 ≠ 0 ∧ ex t.1 E := by rw [h]; exact ⟨Nat.succ_ne_zero _, Or.inr (Or.inr ⟨rfl, hE⟩)⟩
theorem px_of {t : sp_T} {res v : Int32} {u : xr} {T : hs_S} (h : t = (0, v, T)) (hr : res = v) (hu : rx T u) : px t res u := by rw [h]; exact ⟨rfl, hr, hu⟩
theorem sp_has_x {S : hs_S} {x : Int32} {f : Nat → sp_T} {E : String} (h : (E = xIA ∧ ¬ ∃ k, k < 48 ∧ x = nI k ∧ hs_u S k ≠ 0) ∨ (E = xIS ∧ ∃ k, k < 48 ∧ x = nI k ∧ hs_u S k = 1)) : (sp_has S x f).1 ≠ 0 ∧ ex (sp_has S x f).1 E := by
  rcases h with ⟨h1, h2⟩ | ⟨h1, k, h2, h3, h4⟩
  · exact ex1 (sp_has_no h2) h1
  · subst h3; exact ex2 (sp_has_e h2 h4) h1
theorem hs_lu_ok {u : Nat → Nat} : ∀ (d k h : Nat), hs_lu u k d = some h → k ≤ h ∧ h < k + d ∧ u h = 0 := by
  intro d
  induction d with
  | zero => intro k h e; cases e
  | succ d ih =>
    intro k h e
    rw [hs_lu] at e
    by_cases q : u k = 0
    · rw [if_pos q] at e
      cases e
      exact ⟨Nat.le_refl _, by omega, q⟩
    · rw [if_neg q] at e
      have := ih (k + 1) h e
      exact ⟨by omega, by omega, this.2.2⟩
theorem sp_mk_s {S : hs_S} {h n k : Nat} {fx : Bool} {a b : Int32} (e : (hs_room S n 48).2 = some k) : sp_mk S h n fx a b = (0, a, hs_mk (hs_room S n 48).1 h (hs_gb (hs_room S n 48).1 k) n fx) := by
  unfold sp_mk
  rw [e]
theorem sp_mk_n {S : hs_S} {h n : Nat} {fx : Bool} {a b : Int32} (e : (hs_room S n 48).2 = none) : sp_mk S h n fx a b = (0, b, (hs_room S n 48).1) := by
  unfold sp_mk
  rw [e]
theorem sp_gr_s {S : hs_S} {h n k : Nat} (e : (hs_room S n h).2 = some k) : sp_gr S h n = (0, nI 1, hs_gr (hs_room S n h).1 h (hs_gb (hs_room S n h).1 k) n) := by
  unfold sp_gr
  rw [e]
theorem sp_gr_n {S : hs_S} {h n : Nat} (e : (hs_room S n h).2 = none) : sp_gr S h n = (0, nI 0, (hs_room S n h).1) := by
  unfold sp_gr
  rw [e]
theorem sp_ask_x {S : hs_S} {x : Int32} {fx : Bool} (h : ¬ ∃ k, 1 ≤ k ∧ k ≤ 1024 ∧ x = nI k) : sp_ask S x fx = (1, 0, S) := by
  unfold sp_ask
  rw [nd_no (by decide) (by decide) h]
theorem sp_ask_n {S : hs_S} {n : Nat} {fx : Bool} (h1 : 1 ≤ n) (h2 : n ≤ 1024) (e : hs_lu (hs_u S) 0 48 = none) : sp_ask S (nI n) fx = (0, -1, S) := by
  unfold sp_ask
  rw [nd_nI (by decide) h1 h2]
  dsimp only
  rw [e]
theorem sp_ask_s {S : hs_S} {n h : Nat} {fx : Bool} (h1 : 1 ≤ n) (h2 : n ≤ 1024) (e : hs_lu (hs_u S) 0 48 = some h) : sp_ask S (nI n) fx = sp_mk S h n fx (nI h) (-1) := by
  unfold sp_ask
  rw [nd_nI (by decide) h1 h2]
  dsimp only
  rw [e]
theorem sp_resize_x {S : hs_S} {h : Nat} {y : Int32} (hh : h < 48) (hu : hs_u S h ≠ 0) (hy : ¬ ∃ k, 1 ≤ k ∧ k ≤ 1024 ∧ y = nI k) : sp_resize S (nI h) y = (1, 0, S) := by
  unfold sp_resize
  rw [sp_use_h hh hu, nd_no (by decide) (by decide) hy]
theorem sp_resize_h {S : hs_S} {h n : Nat} (hh : h < 48) (hu : hs_u S h ≠ 0) (h1 : 1 ≤ n) (h2 : n ≤ 1024) : sp_resize S (nI h) (nI n) = if hs_u S h = 1 then sp_mk S h n false (nI 1) (nI 0) else if n ≤ hs_n S h + hs_fb S h then (0, nI 1, hs_sz S h n) else if hs_mv S h = true then sp_gr S h n else (0, nI 0, S) := by
  unfold sp_resize
  rw [sp_use_h hh hu, nd_nI (by decide) h1 h2]
theorem sp_clear_h {S : hs_S} {n : Nat} (h : n ≤ 1024) : sp_clear S (nI n) = (0, nI (hs_cl n 48 S 0).2, (hs_cl n 48 S 0).1) := by
  unfold sp_clear
  rw [nd_nI (by decide) (Nat.zero_le _) h]
theorem sp_clear_x {S : hs_S} {x : Int32} (h : ¬ ∃ k, 0 ≤ k ∧ k ≤ 1024 ∧ x = nI k) : sp_clear S x = (1, 0, S) := by
  unfold sp_clear
  rw [nd_no (by decide) (by decide) h]
theorem sp_where_h {S : hs_S} {h : Nat} (hh : h < 48) : sp_where S (nI h) = (0, xb (hs_u S h) (hs_b S h), S) := by
  unfold sp_where
  rw [nd_nI (by decide) (Nat.zero_le _) (by omega)]
theorem sp_where_x {S : hs_S} {x : Int32} (h : ¬ ∃ k, k < 48 ∧ x = nI k) : sp_where S x = (1, 0, S) := by
  unfold sp_where
  rw [nd_no (by decide) (by decide) (fun ⟨k, _, h2, h3⟩ => h ⟨k, by omega, h3⟩)]
theorem sp_size_h {S : hs_S} {h : Nat} (hh : h < 48) : sp_size S (nI h) = (0, nI (hs_n S h), S) := by
  unfold sp_size
  rw [nd_nI (by decide) (Nat.zero_le _) (by omega)]
theorem sp_size_x {S : hs_S} {x : Int32} (h : ¬ ∃ k, k < 48 ∧ x = nI k) : sp_size S x = (1, 0, S) := by
  unfold sp_size
  rw [nd_no (by decide) (by decide) (fun ⟨k, _, h2, h3⟩ => h ⟨k, by omega, h3⟩)]
theorem sp_put_x {S : hs_S} {x i v : Int32} (h : ¬ ∃ k, 0 ≤ k ∧ k ≤ 255 ∧ v = nI k) : sp_put S x i v = (1, 0, S) := by
  unfold sp_put
  rw [nd_no (by decide) (by decide) h]
theorem sp_put_h {S : hs_S} {x i : Int32} {v : Nat} (h : v ≤ 255) : sp_put S x i (nI v) = sp_has S x (fun h => if 0 ≤ i ∧ i < nI (hs_n S h) then (0, hs_y S h i.toNatClampNeg, (hs_R S, hs_b S, hs_n S, hs_u S, hs_f S, hs_l S, hs_o S, va_up (hs_y S) h (va_up (hs_y S h) i.toNatClampNeg (nI v)), hs_m S, hs_x S)) else (3, 0, S)) := by
  unfold sp_put
  rw [nd_nI (by decide) (Nat.zero_le _) h]
theorem ib_iff {i : Int32} {n : Nat} (hn : n ≤ 1024) : (0 ≤ i ∧ i < nI n) ↔ ∃ k, k < n ∧ i = nI k := by
  constructor
  · rintro ⟨h1, h2⟩
    obtain ⟨j, hj, rfl⟩ := nI_of (Int32.not_lt.mpr h1)
    exact ⟨j, (nI_ltI hj (by omega)).mp h2, rfl⟩
  · rintro ⟨k, h1, rfl⟩
    exact ⟨nI_pos' (by omega), (nI_ltI (by omega) (by omega)).mpr h1⟩
theorem sp_owner_h {S : hs_S} {a : Nat} (h : a < 1024) : sp_owner S (nI a) = (0, oi (hs_ow S a (hs_R S).length 0), S) := by
  unfold sp_owner
  rw [nd_nI (by decide) (Nat.zero_le _) (by omega)]
theorem sp_owner_x {S : hs_S} {x : Int32} (h : ¬ ∃ k, k < 1024 ∧ x = nI k) : sp_owner S x = (1, 0, S) := by
  unfold sp_owner
  rw [nd_no (by decide) (by decide) (fun ⟨k, _, h2, h3⟩ => h ⟨k, by omega, h3⟩)]
theorem sp_told_x {S : hs_S} {x : Int32} (h : ¬ ∃ k, 0 ≤ k ∧ k ≤ 6 ∧ x = nI k) : sp_told S x = (1, 0, S) := by
  unfold sp_told
  rw [nd_no (by decide) (by decide) h]
theorem hs_cn_le (u : Nat → Nat) (v : Nat) : ∀ k, hs_cn u v k ≤ k := by
  intro k
  induction k with
  | zero => exact Nat.le_refl _
  | succ k ih =>
    rw [hs_cn]
    by_cases q : u k = v
    · rw [if_pos q]; omega
    · rw [if_neg q]; omega
/-- clear keeps what always holds -/
theorem hs_cl_I {n : Nat} : ∀ (d : Nat) (S : hs_S) (k : Nat), hs_I S → hs_I (hs_cl n d S k).1 := by
  intro d
  induction d with
  | zero => intro S k h; exact h
  | succ d ih =>
    intro S k h
    rw [hs_cl]
    by_cases q : hs_gg S < n
    · rw [if_pos q]
      cases e : hs_l1 S 48 with
      | none => exact h
      | some x => exact ih _ _ (hs_sl_I (hs_gu_I h))
    · rw [if_neg q]; exact h
theorem rx_lk {S : hs_S} {r : xr} (hS : rx S r) {h : Nat} {v : Bool} : rx (hs_R S, hs_b S, hs_n S, hs_u S, hs_f S, va_up (hs_l S) h v, hs_o S, hs_y S, hs_m S, hs_x S) (xs_lk r (upd (x_lk r) h (bI v))) := by
  obtain ⟨h1, h2, h3, h4, h5, h6, h7⟩ := hS
  refine ⟨h1, h2, fun g hg hu => ?_, h4, h5, h6, h7⟩
  have h8 := h3 g hg hu
  refine ⟨h8.1, ?_, h8.2.2⟩
  show upd (x_lk r) h (bI v) g = bI (va_up (hs_l S) h v g)
  by_cases q : g = h
  · subst q; rw [pk_us, va_up_self]
  · rw [pk_un q, va_up_ne _ _ q]; exact h8.2.1
theorem rx_ls {S : hs_S} {r : xr} (hS : rx S r) {h : Nat} {v : Bool} : rx (hs_R S, hs_b S, hs_n S, hs_u S, hs_f S, hs_l S, va_up (hs_o S) h v, hs_y S, hs_m S, hs_x S) (xs_ls r (upd (x_ls r) h (bI v))) := by
  obtain ⟨h1, h2, h3, h4, h5, h6, h7⟩ := hS
  refine ⟨h1, h2, fun g hg hu => ?_, h4, h5, h6, h7⟩
  have h8 := h3 g hg hu
  refine ⟨h8.1, h8.2.1, ?_⟩
  show upd (x_ls r) h (bI v) g = bI (va_up (hs_o S) h v g)
  by_cases q : g = h
  · subst q; rw [pk_us, va_up_self]
  · rw [pk_un q, va_up_ne _ _ q]; exact h8.2.2
theorem rx_put {S : hs_S} {r : xr} (hS : rx S r) (hI : hs_I S) {h i : Nat} {v : Int32} (hh : h < 48) (hu : hs_u S h = 2) (hi : i < hs_n S h) : rx (hs_R S, hs_b S, hs_n S, hs_u S, hs_f S, hs_l S, hs_o S, va_up (hs_y S) h (va_up (hs_y S h) i v), hs_m S, hs_x S) (xs_hp r (upd (x_hp r) (hs_b S h + i) v)) := by
  obtain ⟨h1, h2, h3, h4, h5, h6, h7⟩ := hS
  refine ⟨h1, h2, h3, h4, fun g hg hug j hj => ?_, h6, h7⟩
  have hug : hs_u S g = 2 := hug
  have hj : j < hs_n S g := hj
  show upd (x_hp r) (hs_b S h + i) v (hs_b S g + j) = va_up (hs_y S) h (va_up (hs_y S h) i v) g j
  by_cases q : g = h
  · subst q
    rw [va_up_self]
    by_cases e : j = i
    · subst e; rw [pk_us, va_up_self]
    · rw [pk_un (by omega), va_up_ne _ _ e]; exact h5 g hg hug j hj
  · have := hg_apart hI.1 ((hI.2.1 g).mpr ⟨hg, hug⟩) ((hI.2.1 h).mpr ⟨hh, hu⟩) q
    rw [va_up_ne _ _ q, pk_un (by omega)]
    exact h5 g hg hug j hj
