/-! what always holds stays so -/
theorem hs_mk_I {S : hs_S} (hI : hs_I S) {h a n : Nat} {fx : Bool} (hh : h < 48) (hu : hs_u S h ≠ 2) (hn : 1 ≤ n) (he : a + n ≤ 1024) (hd : ∀ g, g < 48 → hs_u S g = 2 → hs_b S g + hs_n S g ≤ a ∨ a + n ≤ hs_b S g) : hs_I (hs_mk S h a n fx) := by
  obtain ⟨h1, h2, h3⟩ := hI
  have hne : ∀ x, x ∈ hs_R S → x ≠ h := fun x hx e => by subst e; exact hu ((h2 x).mp hx).2
  refine ⟨?_, fun x => ?_, fun x hx hux => ?_⟩
  · show hg_I (hg_ins (va_up (hs_b S) h a) h (hs_R S)) (va_up (hs_b S) h a) (va_up (hs_n S) h n)
    refine hg_I_ins (hg_I_cg h1 (fun x hx => va_up_ne _ _ (hne x hx)) (fun x hx => va_up_ne _ _ (hne x hx))) (by rw [va_up_self]; exact hn) (by rw [va_up_self, va_up_self]; exact he) (fun x hx => ?_)
    rw [va_up_ne _ _ (hne x hx), va_up_ne _ _ (hne x hx), va_up_self, va_up_self]
    have hx2 := (h2 x).mp hx
    exact hd x hx2.1 hx2.2
  · show x ∈ hg_ins (va_up (hs_b S) h a) h (hs_R S) ↔ x < 48 ∧ va_up (hs_u S) h 2 x = 2
    rw [hg_ins_mem, h2 x]
    by_cases e : x = h
    · subst e; rw [va_up_self]; exact ⟨fun _ => ⟨hh, rfl⟩, fun _ => Or.inl rfl⟩
    · rw [va_up_ne _ _ e]
      constructor
      · rintro (q | q)
        · exact absurd q e
        · exact q
      · intro q; exact Or.inr q
  · have hux : va_up (hs_u S) h 2 x ≠ 2 := hux
    have e : x ≠ h := fun e => by subst e; rw [va_up_self] at hux; exact hux rfl
    show va_up (hs_n S) h n x = 0 ∧ va_up (hs_u S) h 2 x < 2
    rw [va_up_ne _ _ e] at hux
    rw [va_up_ne _ _ e, va_up_ne _ _ e]
    exact h3 x hx hux
theorem hs_gr_I {S : hs_S} (hI : hs_I S) {h a n : Nat} (hh : h < 48) (hu : hs_u S h = 2) (hn : 1 ≤ n) (he : a + n ≤ 1024) (hd : ∀ g, g < 48 → g ≠ h → hs_u S g = 2 → hs_b S g + hs_n S g ≤ a ∨ a + n ≤ hs_b S g) : hs_I (hs_gr S h a n) := by
  obtain ⟨h1, h2, h3⟩ := hI
  have hne : ∀ x, x ∈ hg_out (hs_R S) h → x ≠ h := fun x hx => (hg_out_mem.mp hx).2
  refine ⟨?_, fun x => ?_, fun x hx hux => ?_⟩
  · show hg_I (hg_ins (va_up (hs_b S) h a) h (hg_out (hs_R S) h)) (va_up (hs_b S) h a) (va_up (hs_n S) h n)
    refine hg_I_ins (hg_I_cg (hg_I_out (h := h) h1) (fun x hx => va_up_ne _ _ (hne x hx)) (fun x hx => va_up_ne _ _ (hne x hx))) (by rw [va_up_self]; exact hn) (by rw [va_up_self, va_up_self]; exact he) (fun x hx => ?_)
    rw [va_up_ne _ _ (hne x hx), va_up_ne _ _ (hne x hx), va_up_self, va_up_self]
    have hx2 := (h2 x).mp (hg_out_mem.mp hx).1
    exact hd x hx2.1 (hne x hx) hx2.2
  · show x ∈ hg_ins (va_up (hs_b S) h a) h (hg_out (hs_R S) h) ↔ x < 48 ∧ hs_u S x = 2
    rw [hg_ins_mem, hg_out_mem, h2 x]
    by_cases e : x = h
    · subst e; exact ⟨fun _ => ⟨hh, hu⟩, fun _ => Or.inl rfl⟩
    · constructor
      · rintro (q | q)
        · exact absurd q e
        · exact q.1
      · intro q; exact Or.inr ⟨q, e⟩
  · have e : x ≠ h := fun e => by subst e; exact hux hu
    show va_up (hs_n S) h n x = 0 ∧ hs_u S x < 2
    rw [va_up_ne _ _ e]
    exact h3 x hx hux
theorem hs_sz_I {S : hs_S} (hI : hs_I S) {k n : Nat} (hk : k < (hs_R S).length) (hn : 1 ≤ n) (he : hs_b S (hg_at (hs_R S) k) + n ≤ hg_ge (hs_R S) (hs_b S) (k + 1)) : hs_I (hs_sz S (hg_at (hs_R S) k) n) := by
  obtain ⟨h1, h2, h3⟩ := hI
  refine ⟨⟨fun j hj => ?_, fun j hj => ?_⟩, h2, fun x hx hux => ?_⟩
  · show hg_gb (hs_R S) (hs_b S) (va_up (hs_n S) (hg_at (hs_R S) k) n) j ≤ hg_ge (hs_R S) (hs_b S) j
    have hj : j ≤ (hs_R S).length := hj
    have h4 := h1.1 j hj
    cases j with
    | zero => exact h4
    | succ i =>
      rw [hg_gbs] at h4 ⊢
      by_cases e : i = k
      · subst e; rw [va_up_self]; exact he
      · rw [va_up_ne _ _ (fun z => e (hg_inj h1 (by omega) hk z))]; exact h4
  · show 1 ≤ va_up (hs_n S) (hg_at (hs_R S) k) n (hg_at (hs_R S) j)
    have hj : j < (hs_R S).length := hj
    by_cases e : j = k
    · subst e; rw [va_up_self]; exact hn
    · rw [va_up_ne _ _ (fun z => e (hg_inj h1 hj hk z))]; exact h1.2 j hj
  · have hux : hs_u S x ≠ 2 := hux
    have e : x ≠ hg_at (hs_R S) k := fun e => by subst e; exact hux ((h2 _).mp (hg_at_mem hk)).2
    show va_up (hs_n S) (hg_at (hs_R S) k) n x = 0 ∧ hs_u S x < 2
    rw [va_up_ne _ _ e]
    exact h3 x hx hux
theorem hs_go_I {S : hs_S} (hI : hs_I S) {k a : Nat} (hk : k < (hs_R S).length) (h1 : hs_gb S k ≤ a) (h2 : a + hs_n S (hg_at (hs_R S) k) ≤ hg_ge (hs_R S) (hs_b S) (k + 1)) : hs_I (hs_go S (hg_at (hs_R S) k) a) := ⟨hg_I_move hI.1 hk h1 h2, hI.2.1, hI.2.2⟩
/-- what lies about block k up to the next one is free of the others -/
theorem hs_near_d {S : hs_S} (hI : hs_I S) {k : Nat} (hk : k < (hs_R S).length) : ∀ g, g < 48 → g ≠ hg_at (hs_R S) k → hs_u S g = 2 → hs_b S g + hs_n S g ≤ hs_b S (hg_at (hs_R S) k) ∨ hg_ge (hs_R S) (hs_b S) (k + 1) ≤ hs_b S g := by
  intro g hg hne hu
  obtain ⟨j, hj, rfl⟩ := hg_at_of ((hI.2.1 g).mpr ⟨hg, hu⟩)
  rcases Nat.lt_trichotomy j k with q | q | q
  · exact Or.inl (hg_ord hI.1 q hk)
  · subst q; exact absurd rfl hne
  · refine Or.inr ?_
    rw [hg_gek (by omega)]
    by_cases e : j = k + 1
    · rw [e]; exact Nat.le_refl _
    · have := hg_ord hI.1 (i := k + 1) (j := j) (by omega) hj
      omega
theorem hs_lock_I {S : hs_S} (hI : hs_I S) (h : Nat) (v : Bool) : hs_I (hs_R S, hs_b S, hs_n S, hs_u S, hs_f S, va_up (hs_l S) h v, hs_o S, hs_y S, hs_m S, hs_x S) := hI
theorem hs_los_I {S : hs_S} (hI : hs_I S) (h : Nat) (v : Bool) : hs_I (hs_R S, hs_b S, hs_n S, hs_u S, hs_f S, hs_l S, va_up (hs_o S) h v, hs_y S, hs_m S, hs_x S) := hI
theorem hs_J.ge {S : hs_S} (h : hs_J S) {k : Nat} (hk : k < (hs_R S).length) : hs_b S (hg_at (hs_R S) k) + hs_n S (hg_at (hs_R S) k) ≤ 1024 := hg_end h.1 hk
theorem hs_I.out {S : hs_S} (hI : hs_I S) {h : Nat} (hu : hs_u S h ≠ 2) : h ∉ hs_R S := fun q => hu ((hI.2.1 h).mp q).2
theorem hs_I.len47 {S : hs_S} (hI : hs_I S) {h : Nat} (hh : h < 48) (hu : h ∉ hs_R S) : (hs_R S).length ≤ 47 := by
  have h1 := pg_le 48 (h :: hs_R S) (List.nodup_cons.mpr ⟨hu, hg_nd hI.1⟩) (fun x hx => by
    rcases List.mem_cons.mp hx with e | e
    · rw [e]; exact hh
    · exact ((hI.2.1 x).mp e).1)
  rw [List.length_cons] at h1
  omega
theorem hs_out_len {S : hs_S} (hI : hs_I S) {h : Nat} (hh : h < 48) : (hg_out (hs_R S) h).length ≤ 47 := by
  have h1 := hg_nd (hg_I_out (h := h) hI.1)
  have h2 := pg_le 48 (h :: hg_out (hs_R S) h) (List.nodup_cons.mpr ⟨fun q => (hg_out_mem.mp q).2 rfl, h1⟩) (fun x hx => by
    rcases List.mem_cons.mp hx with e | e
    · rw [e]; exact hh
    · exact ((hI.2.1 x).mp (hg_out_mem.mp e).1).1)
  rw [List.length_cons] at h2
  omega
