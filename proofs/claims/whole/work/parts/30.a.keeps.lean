/-! every call keeps what always holds -/
theorem sp_use_I {S : hs_S} (hI : hs_I S) {x : Int32} {f : Nat → sp_T} (h : ∀ k, k < 48 → hs_u S k ≠ 0 → hs_I (f k).2.2) : hs_I (sp_use S x f).2.2 := by
  by_cases q : ∃ k, k < 48 ∧ x = nI k ∧ hs_u S k ≠ 0
  · obtain ⟨k, h1, rfl, h3⟩ := q
    rw [sp_use_h h1 h3]
    exact h k h1 h3
  · rw [sp_use_no q]; exact hI
theorem sp_has_I {S : hs_S} (hI : hs_I S) {x : Int32} {f : Nat → sp_T} (h : ∀ k, k < 48 → hs_u S k = 2 → hs_I (f k).2.2) : hs_I (sp_has S x f).2.2 := by
  unfold sp_has
  refine sp_use_I hI (fun k hk hu => ?_)
  have h2 := hI.u2 hk
  by_cases q : hs_u S k = 1
  · rw [if_pos q]; exact hI
  · rw [if_neg q]; exact h k hk (by omega)
theorem sp_mk_I {S : hs_S} (hI : hs_I S) {h n : Nat} {fx : Bool} {a b : Int32} (hh : h < 48) (hu : hs_u S h ≠ 2) (hn : 1 ≤ n) : hs_I (sp_mk S h n fx a b).2.2 := by
  obtain ⟨hsm, hok⟩ := hs_room_ok hI n 48
  rcases op_cases (hs_room S n 48).2 with ⟨k, e⟩ | e
  · rw [sp_mk_s e]
    obtain ⟨hk1, hk2⟩ := hok k e
    exact hs_mk_I hsm.1 hh (by rw [hsm.2.1 h hh hu]; exact hu) hn (hs_gap_e hsm.1 hk1 hk2) (hs_gap_d hsm.1 hk1 hk2)
  · rw [sp_mk_n e]; exact hsm.1
theorem sp_gr_I {S : hs_S} (hI : hs_I S) {h n : Nat} (hh : h < 48) (hu : hs_u S h = 2) (hn : 1 ≤ n) : hs_I (sp_gr S h n).2.2 := by
  obtain ⟨hsm, hok⟩ := hs_room_ok hI n h
  rcases op_cases (hs_room S n h).2 with ⟨k, e⟩ | e
  · rw [sp_gr_s e]
    obtain ⟨hk1, hk2⟩ := hok k e
    obtain ⟨huT, hnT⟩ := hsm.2.2 hh hu
    exact hs_gr_I hsm.1 hh huT hn (hs_gap_e hsm.1 hk1 hk2) (fun g hg _ hgu => hs_gap_d hsm.1 hk1 hk2 g hg hgu)
  · rw [sp_gr_n e]; exact hsm.1
theorem hs_ix {S : hs_S} (hI : hs_I S) {h : Nat} (hh : h < 48) (hu : hs_u S h = 2) : ∃ k, k < (hs_R S).length ∧ hg_at (hs_R S) k = h ∧ hs_b S h + hs_n S h + hs_fb S h = hg_ge (hs_R S) (hs_b S) (k + 1) ∧ hs_gb S k ≤ hs_b S h := by
  obtain ⟨kx, ekx⟩ : ∃ z, z = hg_ix h (hs_R S) := ⟨_, rfl⟩
  have hix := hg_ix_ok ((hI.2.1 h).mpr ⟨hh, hu⟩)
  rw [← ekx] at hix
  have hgb : hs_gb S (kx + 1) = hs_b S h + hs_n S h := by show hs_b S (hg_at (hs_R S) kx) + hs_n S (hg_at (hs_R S) kx) = _; rw [hix.2]
  have hge := hs_ge_le hI (k := kx + 1) (by omega)
  have hfb : hs_fb S h = hs_ge S (kx + 1) - (hs_b S h + hs_n S h) := by unfold hs_fb; rw [← ekx, hs_gl_e, hgb]
  refine ⟨kx, hix.1, hix.2, ?_, ?_⟩
  · show _ = hs_ge S (kx + 1)
    omega
  · have := hg_lo hI.1 hix.1
    rw [hix.2] at this
    exact this
theorem sp_ask_I {S : hs_S} (hI : hs_I S) {x : Int32} {fx : Bool} : hs_I (sp_ask S x fx).2.2 := by
  by_cases q : ∃ k, 1 ≤ k ∧ k ≤ 1024 ∧ x = nI k
  · obtain ⟨n, h1, h2, rfl⟩ := q
    rcases op_cases (hs_lu (hs_u S) 0 48) with ⟨h, e⟩ | e
    · rw [sp_ask_s h1 h2 e]
      have h3 := hs_lu_ok _ _ _ e
      exact sp_mk_I hI (by omega) (by omega) h1
    · rw [sp_ask_n h1 h2 e]; exact hI
  · rw [sp_ask_x q]; exact hI
theorem sp_drop_I {S : hs_S} (hI : hs_I S) {x : Int32} : hs_I (sp_drop S x).2.2 := sp_use_I hI (fun k _ _ => hs_tk_I hI (by omega))
theorem sp_resize_I {S : hs_S} (hI : hs_I S) {x y : Int32} : hs_I (sp_resize S x y).2.2 := by
  by_cases q : ∃ k, k < 48 ∧ x = nI k ∧ hs_u S k ≠ 0
  · obtain ⟨h, hh, rfl, hu⟩ := q
    by_cases q2 : ∃ k, 1 ≤ k ∧ k ≤ 1024 ∧ y = nI k
    · obtain ⟨n, h1, h2, rfl⟩ := q2
      rw [sp_resize_h hh hu h1 h2]
      have hu2 := hI.u2 hh
      by_cases c1 : hs_u S h = 1
      · rw [if_pos c1]; exact sp_mk_I hI hh (by omega) h1
      · rw [if_neg c1]
        have huh : hs_u S h = 2 := by omega
        obtain ⟨k, g1, g2, g3, g4⟩ := hs_ix hI hh huh
        by_cases c2 : n ≤ hs_n S h + hs_fb S h
        · rw [if_pos c2]
          have := hs_sz_I hI g1 h1 (n := n) (by rw [g2]; omega)
          rw [g2] at this
          exact this
        · rw [if_neg c2]
          by_cases c3 : hs_mv S h = true
          · rw [if_pos c3]; exact sp_gr_I hI hh huh h1
          · rw [if_neg c3]; exact hI
    · rw [sp_resize_x hh hu q2]; exact hI
  · unfold sp_resize; rw [sp_use_no q]; exact hI
theorem sp_lock_I {S : hs_S} (hI : hs_I S) {x : Int32} {v : Bool} : hs_I (sp_lock S x v).2.2 := sp_has_I hI (fun k _ _ => hs_lock_I hI k v)
theorem sp_losable_I {S : hs_S} (hI : hs_I S) {x : Int32} {v : Bool} : hs_I (sp_losable S x v).2.2 := sp_has_I hI (fun k _ _ => hs_los_I hI k v)
theorem sp_lose_I {S : hs_S} (hI : hs_I S) {x : Int32} : hs_I (sp_lose S x).2.2 := sp_has_I hI (fun k _ _ => by
  by_cases q : hs_mv S k = true
  · rw [if_pos q]; exact hs_gu_I hI
  · rw [if_neg q]; exact hI)
theorem sp_lift_I {S : hs_S} (hI : hs_I S) {x : Int32} : hs_I (sp_lift S x).2.2 := sp_has_I hI (fun h hh huh => by
  by_cases q : hs_mv S h = true
  · rw [if_pos q]
    obtain ⟨k, g1, g2, g3, g4⟩ := hs_ix hI hh huh
    have := hs_go_I hI g1 (a := hs_b S h + hs_fb S h) (by omega) (by rw [g2]; omega)
    rw [g2] at this
    exact this
  · rw [if_neg q]; exact hI)
theorem sp_slide_I {S : hs_S} (hI : hs_I S) : hs_I (sp_slide S).2.2 := hs_sl_I hI
theorem sp_clear_I {S : hs_S} (hI : hs_I S) {x : Int32} : hs_I (sp_clear S x).2.2 := by
  by_cases q : ∃ k, 0 ≤ k ∧ k ≤ 1024 ∧ x = nI k
  · obtain ⟨n, _, h2, rfl⟩ := q
    rw [sp_clear_h h2]; exact hs_cl_I _ _ _ hI
  · rw [sp_clear_x q]; exact hI
theorem sp_where_I {S : hs_S} (hI : hs_I S) {x : Int32} : hs_I (sp_where S x).2.2 := by
  unfold sp_where
  cases nd 0 47 x <;> exact hI
theorem sp_size_I {S : hs_S} (hI : hs_I S) {x : Int32} : hs_I (sp_size S x).2.2 := by
  unfold sp_size
  cases nd 0 47 x <;> exact hI
theorem sp_put_I {S : hs_S} (hI : hs_I S) {x i v : Int32} : hs_I (sp_put S x i v).2.2 := by
  unfold sp_put
  cases nd 0 255 v with
  | none => exact hI
  | some w =>
    refine sp_has_I hI (fun k _ _ => ?_)
    by_cases q : 0 ≤ i ∧ i < nI (hs_n S k)
    · rw [if_pos q]; exact hI
    · rw [if_neg q]; exact hI
theorem sp_get_I {S : hs_S} (hI : hs_I S) {x i : Int32} : hs_I (sp_get S x i).2.2 := by
  refine sp_has_I hI (fun k _ _ => ?_)
  by_cases q : 0 ≤ i ∧ i < nI (hs_n S k)
  · rw [if_pos q]; exact hI
  · rw [if_neg q]; exact hI
theorem sp_owner_I {S : hs_S} (hI : hs_I S) {x : Int32} : hs_I (sp_owner S x).2.2 := by
  unfold sp_owner
  cases nd 0 1023 x <;> exact hI
theorem sp_told_I {S : hs_S} (hI : hs_I S) {x : Int32} : hs_I (sp_told S x).2.2 := by
  rcases nd_cases 0 6 x (by decide) (by decide) with ⟨k, -, hk, rfl, -⟩ | ⟨-, hno⟩
  · rcases (show k = 0 ∨ k = 1 ∨ k = 2 ∨ k = 3 ∨ k = 4 ∨ k = 5 ∨ k = 6 by omega) with rfl | rfl | rfl | rfl | rfl | rfl | rfl
    · exact hI
    · exact hI
    · exact hI
    · exact hI
    · exact hI
    · exact hI
    · exact hI
  · rw [sp_told_x hno]; exact hI
/-- the state of a new object -/
def hs_0 : hs_S := ([], fun _ => 0, fun _ => 0, fun _ => 0, fun _ => false, fun _ => false, fun _ => false, fun _ _ => 0, 0, 0)
theorem hs_0_I : hs_I hs_0 := by
  refine ⟨⟨fun k hk => ?_, fun k hk => absurd hk (Nat.not_lt_zero _)⟩, fun h => ?_, fun h _ _ => ⟨rfl, Nat.zero_lt_succ 1⟩⟩
  · have : k = 0 := Nat.le_zero.mp hk
    subst this
    exact Nat.zero_le _
  · constructor
    · intro q; cases q
    · rintro ⟨_, q⟩; cases q
