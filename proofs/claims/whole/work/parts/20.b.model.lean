/-! THE REFERENCE: gaps, sliding, losing, room -/
theorem hs_wk_s {S : hs_S} {k : Nat} (hk : k < (hs_R S).length) : hs_wk S (k + 1) = hs_ge S k + hs_n S (hg_at (hs_R S) k) := by
  rw [hs_wk_k (by omega), hs_ge_b hk]
  rfl
theorem hs_wk_l {S : hs_S} {k : Nat} (hk : k = (hs_R S).length) : hs_wk S (k + 1) = 1024 := by
  rw [hk]
  exact hs_wk_e
theorem hs_wk_no {S : hs_S} {k d : Nat} (hd : k + d = (hs_R S).length + 1) (h : ¬ 1024 ≤ hs_wk S k) : k ≤ (hs_R S).length := by
  by_cases q : k = (hs_R S).length + 1
  · rw [q, hs_wk_e] at h; omega
  · omega
theorem hs_wk_d {S : hs_S} (hI : hs_I S) {k d : Nat} (hd : k + d = (hs_R S).length + 1) (h : 1024 ≤ hs_wk S k) : d = 0 ∨ (d = 1 ∧ k = (hs_R S).length ∧ hs_gl S k = 0) := by
  by_cases q : k = (hs_R S).length + 1
  · left; omega
  · rw [hs_wk_k (by omega)] at h
    have := hs_wk_end hI (by omega) h
    exact Or.inr ⟨by omega, this⟩
theorem hs_fk_end {S : hs_S} (hI : hs_I S) {n k d : Nat} (hn : 1 ≤ n) (hd : k + d = (hs_R S).length + 1) (h : 1024 ≤ hs_wk S k) : hs_fk S n d k = none := by
  rcases hs_wk_d hI hd h with rfl | ⟨rfl, -, q⟩
  · rfl
  · rw [hs_fk, if_neg (by omega)]; rfl
theorem hs_mx_end {S : hs_S} (hI : hs_I S) {k d : Nat} (hd : k + d = (hs_R S).length + 1) (h : 1024 ≤ hs_wk S k) : hs_mx S k = hs_gg S := by
  unfold hs_gg
  rcases hs_wk_d hI hd h with rfl | ⟨rfl, q1, q⟩
  · rw [← hd]; rfl
  · rw [← hd]
    show _ = max (hs_mx S k) (hs_gl S k)
    omega
theorem hs_mx_a {S : hs_S} {k : Nat} (h : hs_ge S k - hs_gb S k ≤ hs_mx S k) : hs_mx S k = hs_mx S (k + 1) := by
  show _ = max (hs_mx S k) (hs_gl S k)
  rw [hs_gl_e]
  omega
theorem hs_mx_b {S : hs_S} {k : Nat} (h : ¬ hs_ge S k - hs_gb S k ≤ hs_mx S k) : hs_ge S k - hs_gb S k = hs_mx S (k + 1) := by
  show _ = max (hs_mx S k) (hs_gl S k)
  rw [hs_gl_e]
  omega
/-- free bytes, or free blocks -/
def hs_fr (S : hs_S) (bl : Bool) (k : Nat) : Nat := if bl = true then hs_ct S k else hs_sm S k
theorem hs_fr_0 {S : hs_S} {bl : Bool} : hs_fr S bl 0 = 0 := by cases bl <;> rfl
theorem hs_fr_z {S : hs_S} {bl : Bool} {k : Nat} (h : hs_gl S k = 0) : hs_fr S bl k = hs_fr S bl (k + 1) := by
  cases bl with
  | true => show hs_ct S k = hs_ct S (k + 1); rw [hs_ct, if_neg (by omega)]
  | false => show hs_sm S k = hs_sm S (k + 1); rw [hs_sm, h]; rfl
theorem hs_fr_t {S : hs_S} {bl : Bool} {k : Nat} (hb : bl = true) (h : hs_gl S k ≠ 0) : hs_fr S bl k + 1 = hs_fr S bl (k + 1) := by
  subst hb
  show hs_ct S k + 1 = hs_ct S (k + 1)
  rw [hs_ct, if_pos (by omega)]
theorem hs_fr_f {S : hs_S} {bl : Bool} {k : Nat} (hb : bl = false) : hs_fr S bl k + hs_gl S k = hs_fr S bl (k + 1) := by
  subst hb
  rfl
theorem hs_fr_end {S : hs_S} (hI : hs_I S) {bl : Bool} {k d : Nat} (hd : k + d = (hs_R S).length + 1) (h : 1024 ≤ hs_wk S k) : hs_fr S bl k = hs_fr S bl ((hs_R S).length + 1) := by
  rcases hs_wk_d hI hd h with rfl | ⟨rfl, q1, q⟩
  · rw [← hd]; rfl
  · rw [← hd]
    exact hs_fr_z q
set_option maxHeartbeats 4000000 in
set_option maxRecDepth 100000 in
/-- place -/
theorem m_place (l : Launch) (G : gs_G) (q : Nat → Nat) (r : yr) (S : hs_S) (hS : ry S r) (hI : hs_I S) (n : Nat) (hn1 : 1 ≤ n) (hn : n ≤ 1024) : gm_i l yX1_place wsX1_place (gm_rm 4 0 0) G (yw G q) r [.ref (q 0), .int (nI n)] (fun res u => u = r ∧ res = oi ((hs_pk S n).map (hs_gb S))) 0 0 := by
  refine gm_i.of (cc := cX1_place) (nL := 4) (ret := (some .int)) (by decide +kernel) rfl (Nat.le_of_ble_eq_true rfl) ?_
  intro p e s m args below meth c ls C0 hz hl
  have hin : ∀ w ∈ wsX10, w ∈ wsX1_place := by decide +kernel
  have l_sz : Cond.fieldLink RX1 17 "HandleHeapModel" "size" "[I" ∈ wsX1_place := by decide +kernel
  have hl : lv_has ls 4 [(0, .ref (q 0)), (1, .int (nI n))] := hl
  have hlen := hI.J.len
  refine lv_iconst (v := nI 0) C0.1.1 C0.1.2.1 dX1_place_0 (by decide) ?_
  refine lv_istore_n (lv' := [(2, .int (nI 0)), (0, .ref (q 0)), (1, .int (nI n))]) C0.1.1 C0.1.2.1 dX1_place_1 rfl hl (by decide) rfl (fun ls hl => ?_)
  have hl : lv_has ls 4 [(0, .ref (q 0)), (1, .int (nI n)), (2, .int (nI 0))] := lv_sub hl [1, 2, 0] rfl
  have hl : lv_has ls 4 [(0, .ref (q 0)), (1, .int (nI n)), (2, .int (nI (hs_wk S 0)))] := by rw [hs_wk_0]; exact hl
  refine (?loop : ∀ (d k : Nat) (ls : Array Slot) (H : Heap) (locs : List Loc), gs_Z G (yw G q r) _ s H locs → k + d = (hs_R S).length + 1 → hs_pk S n = hs_fk S n d k → lv_has ls 4 [(0, .ref (q 0)), (1, .int (nI n)), (2, .int (nI (hs_wk S k)))] → W p l e _ s m args below meth c H locs 0 0 _ (F0 m 2 ls [])) _ 0 ls _ _ hz (Nat.zero_add _) rfl hl
  intro d
  induction d using Nat.strongRecOn with
  | _ d ih =>
    intro k ls H locs hz hd key hl
    have hw := hs_wk_le hI (k := k) (by omega)
    refine lv_iload_n C0.1.1 C0.1.2.1 dX1_place_2 rfl (lv_at hl 2 rfl) ?_
    refine lv_sipush (v := nI 1024) C0.1.1 C0.1.2.1 dX1_place_3 (by decide) ?_
    refine lv_icmp_ge (tgt := 58) C0.1.1 C0.1.2.1 dX1_place_6 (by decide) (fun c1 => ?_) (fun c1 => ?_)
    · rw [nI_leI (by omega) (by omega)] at c1
      refine lv_iconst (v := (-1)) C0.1.1 C0.1.2.1 dX1_place_58 (by decide) ?_
      exact gs_reti r C0 hz (⟨rfl, by rw [key, hs_fk_end hI hn1 hd c1]; rfl⟩) (Nat.le_of_ble_eq_true rfl) (Nat.le_of_ble_eq_true rfl) dX1_place_59
    · rw [nI_leI (by omega) (by omega)] at c1
      have hk := hs_wk_no hd c1
      obtain ⟨d', rfl⟩ : ∃ d', d = d' + 1 := ⟨d - 1, by omega⟩
      have hge := hs_ge_le hI hk
      rw [hs_wk_k hk] at hl
      refine lv_aload_n C0.1.1 C0.1.2.1 dX1_place_9 rfl (lv_at hl 0 rfl) ?_
      refine lv_iload_n C0.1.1 C0.1.2.1 dX1_place_10 rfl (lv_at hl 2 rfl) ?_
      refine gs_callVi (w := yw G q) (wr := []) C0.1 (m_freeTo l G q r S hS hI (hs_gb S k) k (hs_nk_gb hI hk)) (cwV 1 C0.1.2.2.2.2 gX1_place_X1_freeTo rfl rfl rfl (by decide +kernel) ⟨Nat.le_of_ble_eq_true rfl, Nat.le_of_ble_eq_true rfl⟩) (ci := 1) rfl rfl rfl (gs_nil hz) rfl hl.1 rfl (Nat.le_of_ble_eq_true rfl) dX1_place_11 ⟨Nat.le_of_ble_eq_true rfl, Nat.le_of_ble_eq_true rfl⟩ (fun res u9 H locs hp9 hz => ?_)
      replace hz := gs_unnil hz
      rw [hp9.1] at hz
      refine gs_eq (y := nI (hs_ge S k)) (hp9.2) ?_
      clear hp9
      refine lv_istore_n (lv' := [(3, .int (nI (hs_ge S k))), (0, .ref (q 0)), (1, .int (nI n)), (2, .int (nI (hs_gb S k)))]) C0.1.1 C0.1.2.1 dX1_place_14 rfl hl (by decide) rfl (fun ls hl => ?_)
      refine lv_iload_n C0.1.1 C0.1.2.1 dX1_place_15 rfl (lv_at hl 0 rfl) ?_
      refine lv_iload_n C0.1.1 C0.1.2.1 dX1_place_16 rfl (lv_at hl 3 rfl) ?_
      refine lv_isub C0.1.1 C0.1.2.1 dX1_place_17 ?_
      refine gs_eq (pk_sub (by omega)) ?_
      refine lv_iload_n C0.1.1 C0.1.2.1 dX1_place_18 rfl (lv_at hl 2 rfl) ?_
      refine lv_icmp_lt (tgt := 29) C0.1.1 C0.1.2.1 dX1_place_19 (by decide) (fun c2 => ?_) (fun c2 => ?_)
      · rw [nI_ltI (by omega) (by omega)] at c2
        have key : hs_pk S n = hs_fk S n d' (k + 1) := by rw [key, hs_fk, if_neg (by rw [hs_gl_e]; omega)]
        refine lv_iload_n C0.1.1 C0.1.2.1 dX1_place_29 rfl (lv_at hl 0 rfl) ?_
        refine lv_sipush (v := nI 1024) C0.1.1 C0.1.2.1 dX1_place_30 (by decide) ?_
        refine lv_icmp_ne (tgt := 42) C0.1.1 C0.1.2.1 dX1_place_33 (by decide) (fun c8 => ?_) (fun c8 => ?_)
        · rw [nI_eq (by omega) (by omega)] at c8
          have hkR : k < (hs_R S).length := by
            have := hs_ge_1024 hI hk
            omega
          have hat := hI.J.at hkR
          refine lv_iload_n C0.1.1 C0.1.2.1 dX1_place_42 rfl (lv_at hl 0 rfl) ?_
          refine lv_aload_n C0.1.1 C0.1.2.1 dX1_place_43 rfl (lv_at hl 1 rfl) ?_
          refine yg_sz C0 hin hz l_sz dX1_place_44 ?_
          refine lv_aload_n C0.1.1 C0.1.2.1 dX1_place_47 rfl (lv_at hl 1 rfl) ?_
          refine lv_iload_n C0.1.1 C0.1.2.1 dX1_place_48 rfl (lv_at hl 0 rfl) ?_
          refine gs_callVi (w := yw G q) (wr := []) C0.1 (m_firstFrom l G q r S hS hI (hs_ge S k) k (by rw [hs_ge_b hkR]; exact hs_nk_b hI hkR)) (cwV 1 C0.1.2.2.2.2 gX1_place_X1_firstFrom rfl rfl rfl (by decide +kernel) ⟨Nat.le_of_ble_eq_true rfl, Nat.le_of_ble_eq_true rfl⟩) (ci := 1) rfl rfl rfl (gs_nil hz) rfl hl.1 rfl (Nat.le_of_ble_eq_true rfl) dX1_place_49 ⟨Nat.le_of_ble_eq_true rfl, Nat.le_of_ble_eq_true rfl⟩ (fun res u9 H locs hp9 hz => ?_)
          replace hz := gs_unnil hz
          rw [hp9.1] at hz
          refine gs_eq (y := nI (hg_at (hs_R S) k)) (by rw [hp9.2, hs_nx_s hkR]; rfl) ?_
          clear hp9
          refine yl_sz C0 hz (hg_at (hs_R S) k) (hat.1) rfl dX1_place_52 ?_
          refine gs_eq (y := nI (hs_n S (hg_at (hs_R S) k))) (hS.2.1 _ hat.1) ?_
          refine lv_iadd C0.1.1 C0.1.2.1 dX1_place_53 ?_
          refine gs_eq (nI_add (hs_ge S k) (hs_n S (hg_at (hs_R S) k))) ?_
          refine lv_istore_n (lv' := [(2, .int (nI ((hs_ge S k) + (hs_n S (hg_at (hs_R S) k))))), (3, .int (nI (hs_ge S k))), (0, .ref (q 0)), (1, .int (nI n))]) C0.1.1 C0.1.2.1 dX1_place_54 rfl hl (by decide) rfl (fun ls hl => ?_)
          refine lv_goto (tgt := 2) C0.1.1 C0.1.2.1 dX1_place_55 (by decide) ?_
          have hl : lv_has ls 4 [(0, .ref (q 0)), (1, .int (nI n)), (2, .int (nI ((hs_ge S k) + (hs_n S (hg_at (hs_R S) k)))))] := lv_sub hl [2, 3, 0] rfl
          have hl : lv_has ls 4 [(0, .ref (q 0)), (1, .int (nI n)), (2, .int (nI (hs_wk S (k + 1))))] := by rw [hs_wk_s hkR]; exact hl
          exact ih d' (by omega) (k + 1) ls _ _ hz (by omega) key hl
        · rw [nI_eq (by omega) (by omega)] at c8
          have hkR : k = (hs_R S).length := (hs_ge_1024 hI hk).mp c8
          refine lv_sipush (v := nI 1024) C0.1.1 C0.1.2.1 dX1_place_36 (by decide) ?_
          refine lv_goto (tgt := 54) C0.1.1 C0.1.2.1 dX1_place_39 (by decide) ?_
          refine lv_istore_n (lv' := [(2, .int (nI 1024)), (3, .int (nI (hs_ge S k))), (0, .ref (q 0)), (1, .int (nI n))]) C0.1.1 C0.1.2.1 dX1_place_54 rfl hl (by decide) rfl (fun ls hl => ?_)
          refine lv_goto (tgt := 2) C0.1.1 C0.1.2.1 dX1_place_55 (by decide) ?_
          have hl : lv_has ls 4 [(0, .ref (q 0)), (1, .int (nI n)), (2, .int (nI 1024))] := lv_sub hl [2, 3, 0] rfl
          have hl : lv_has ls 4 [(0, .ref (q 0)), (1, .int (nI n)), (2, .int (nI (hs_wk S (k + 1))))] := by rw [hs_wk_l hkR]; exact hl
          exact ih d' (by omega) (k + 1) ls _ _ hz (by omega) key hl
      · rw [nI_ltI (by omega) (by omega)] at c2
        refine lv_iload_n C0.1.1 C0.1.2.1 dX1_place_22 rfl (lv_at hl 0 rfl) ?_
        refine lv_iload_n C0.1.1 C0.1.2.1 dX1_place_23 rfl (lv_at hl 3 rfl) ?_
        refine lv_icmp_le (tgt := 29) C0.1.1 C0.1.2.1 dX1_place_24 (by decide) (fun c3 => ?_) (fun c3 => ?_)
        · rw [nI_leI (by omega) (by omega)] at c3
          exact absurd c3 (by omega)
        · rw [nI_leI (by omega) (by omega)] at c3
          refine lv_iload_n C0.1.1 C0.1.2.1 dX1_place_27 rfl (lv_at hl 3 rfl) ?_
          exact gs_reti r C0 hz (⟨rfl, by rw [key, hs_fk, if_pos (by rw [hs_gl_e]; omega)]; rfl⟩) (Nat.le_of_ble_eq_true rfl) (Nat.le_of_ble_eq_true rfl) dX1_place_28
set_option maxHeartbeats 4000000 in
set_option maxRecDepth 100000 in
/-- greatest -/
theorem m_greatest (l : Launch) (G : gs_G) (q : Nat → Nat) (r : yr) (S : hs_S) (hS : ry S r) (hI : hs_I S) : gm_i l yX1_greatest wsX1_greatest (gm_rm 4 0 0) G (yw G q) r [.ref (q 0)] (fun res u => u = r ∧ res = nI (hs_gg S)) 0 0 := by
  refine gm_i.of (cc := cX1_greatest) (nL := 4) (ret := (some .int)) (by decide +kernel) rfl (Nat.le_of_ble_eq_true rfl) ?_
  intro p e s m args below meth c ls C0 hz hl
  have hin : ∀ w ∈ wsX10, w ∈ wsX1_greatest := by decide +kernel
  have l_sz : Cond.fieldLink RX1 17 "HandleHeapModel" "size" "[I" ∈ wsX1_greatest := by decide +kernel
  have hl : lv_has ls 4 [(0, .ref (q 0))] := hl
  have hlen := hI.J.len
  refine lv_iconst (v := nI 0) C0.1.1 C0.1.2.1 dX1_greatest_0 (by decide) ?_
  refine lv_istore_n (lv' := [(1, .int (nI 0)), (0, .ref (q 0))]) C0.1.1 C0.1.2.1 dX1_greatest_1 rfl hl (by decide) rfl (fun ls hl => ?_)
  refine lv_iconst (v := nI 0) C0.1.1 C0.1.2.1 dX1_greatest_2 (by decide) ?_
  refine lv_istore_n (lv' := [(2, .int (nI 0)), (1, .int (nI 0)), (0, .ref (q 0))]) C0.1.1 C0.1.2.1 dX1_greatest_3 rfl hl (by decide) rfl (fun ls hl => ?_)
  have hl : lv_has ls 4 [(0, .ref (q 0)), (1, .int (nI 0)), (2, .int (nI 0))] := lv_sub hl [2, 1, 0] rfl
  have hl : lv_has ls 4 [(0, .ref (q 0)), (1, .int (nI (hs_mx S 0))), (2, .int (nI (hs_wk S 0)))] := by rw [hs_wk_0]; exact hl
  refine (?loop : ∀ (d k : Nat) (ls : Array Slot) (H : Heap) (locs : List Loc), gs_Z G (yw G q r) _ s H locs → k + d = (hs_R S).length + 1 → lv_has ls 4 [(0, .ref (q 0)), (1, .int (nI (hs_mx S k))), (2, .int (nI (hs_wk S k)))] → W p l e _ s m args below meth c H locs 0 0 _ (F0 m 4 ls [])) _ 0 ls _ _ hz (Nat.zero_add _) hl
  intro d
  induction d using Nat.strongRecOn with
  | _ d ih =>
    intro k ls H locs hz hd hl
    have hw := hs_wk_le hI (k := k) (by omega)
    have hmx := hs_mx_le hI.J k (by omega)
    refine lv_iload_n C0.1.1 C0.1.2.1 dX1_greatest_4 rfl (lv_at hl 2 rfl) ?_
    refine lv_sipush (v := nI 1024) C0.1.1 C0.1.2.1 dX1_greatest_5 (by decide) ?_
    refine lv_icmp_ge (tgt := 61) C0.1.1 C0.1.2.1 dX1_greatest_8 (by decide) (fun c1 => ?_) (fun c1 => ?_)
    · rw [nI_leI (by omega) (by omega)] at c1
      refine lv_iload_n C0.1.1 C0.1.2.1 dX1_greatest_61 rfl (lv_at hl 1 rfl) ?_
      exact gs_reti r C0 hz (⟨rfl, by rw [hs_mx_end hI hd c1]⟩) (Nat.le_of_ble_eq_true rfl) (Nat.le_of_ble_eq_true rfl) dX1_greatest_62
    · rw [nI_leI (by omega) (by omega)] at c1
      have hk := hs_wk_no hd c1
      obtain ⟨d', rfl⟩ : ∃ d', d = d' + 1 := ⟨d - 1, by omega⟩
      have hge := hs_ge_le hI hk
      rw [hs_wk_k hk] at hl
      refine lv_aload_n C0.1.1 C0.1.2.1 dX1_greatest_11 rfl (lv_at hl 0 rfl) ?_
      refine lv_iload_n C0.1.1 C0.1.2.1 dX1_greatest_12 rfl (lv_at hl 2 rfl) ?_
      refine gs_callVi (w := yw G q) (wr := []) C0.1 (m_freeTo l G q r S hS hI (hs_gb S k) k (hs_nk_gb hI hk)) (cwV 1 C0.1.2.2.2.2 gX1_greatest_X1_freeTo rfl rfl rfl (by decide +kernel) ⟨Nat.le_of_ble_eq_true rfl, Nat.le_of_ble_eq_true rfl⟩) (ci := 1) rfl rfl rfl (gs_nil hz) rfl hl.1 rfl (Nat.le_of_ble_eq_true rfl) dX1_greatest_13 ⟨Nat.le_of_ble_eq_true rfl, Nat.le_of_ble_eq_true rfl⟩ (fun res u9 H locs hp9 hz => ?_)
      replace hz := gs_unnil hz
      rw [hp9.1] at hz
      refine gs_eq (y := nI (hs_ge S k)) (hp9.2) ?_
      clear hp9
      refine lv_istore_n (lv' := [(3, .int (nI (hs_ge S k))), (0, .ref (q 0)), (1, .int (nI (hs_mx S k))), (2, .int (nI (hs_gb S k)))]) C0.1.1 C0.1.2.1 dX1_greatest_16 rfl hl (by decide) rfl (fun ls hl => ?_)
      refine lv_iload_n C0.1.1 C0.1.2.1 dX1_greatest_17 rfl (lv_at hl 0 rfl) ?_
      refine lv_iload_n C0.1.1 C0.1.2.1 dX1_greatest_18 rfl (lv_at hl 3 rfl) ?_
      refine lv_isub C0.1.1 C0.1.2.1 dX1_greatest_19 ?_
      refine gs_eq (pk_sub (by omega)) ?_
      refine lv_iload_n C0.1.1 C0.1.2.1 dX1_greatest_20 rfl (lv_at hl 2 rfl) ?_
      refine lv_icmp_le (tgt := 30) C0.1.1 C0.1.2.1 dX1_greatest_21 (by decide) (fun c2 => ?_) (fun c2 => ?_)
      · rw [nI_leI (by omega) (by omega)] at c2
        refine lv_iload_n C0.1.1 C0.1.2.1 dX1_greatest_30 rfl (lv_at hl 2 rfl) ?_
        refine gs_eq (y := nI (hs_mx S (k + 1))) (by rw [hs_mx_a c2]) ?_
        refine lv_istore_n (lv' := [(1, .int (nI (hs_mx S (k + 1)))), (3, .int (nI (hs_ge S k))), (0, .ref (q 0)), (2, .int (nI (hs_gb S k)))]) C0.1.1 C0.1.2.1 dX1_greatest_31 rfl hl (by decide) rfl (fun ls hl => ?_)
        refine lv_iload_n C0.1.1 C0.1.2.1 dX1_greatest_32 rfl (lv_at hl 1 rfl) ?_
        refine lv_sipush (v := nI 1024) C0.1.1 C0.1.2.1 dX1_greatest_33 (by decide) ?_
        refine lv_icmp_ne (tgt := 45) C0.1.1 C0.1.2.1 dX1_greatest_36 (by decide) (fun c8 => ?_) (fun c8 => ?_)
        · rw [nI_eq (by omega) (by omega)] at c8
          have hkR : k < (hs_R S).length := by
            have := hs_ge_1024 hI hk
            omega
          have hat := hI.J.at hkR
          refine lv_iload_n C0.1.1 C0.1.2.1 dX1_greatest_45 rfl (lv_at hl 1 rfl) ?_
          refine lv_aload_n C0.1.1 C0.1.2.1 dX1_greatest_46 rfl (lv_at hl 2 rfl) ?_
          refine yg_sz C0 hin hz l_sz dX1_greatest_47 ?_
          refine lv_aload_n C0.1.1 C0.1.2.1 dX1_greatest_50 rfl (lv_at hl 2 rfl) ?_
          refine lv_iload_n C0.1.1 C0.1.2.1 dX1_greatest_51 rfl (lv_at hl 1 rfl) ?_
          refine gs_callVi (w := yw G q) (wr := []) C0.1 (m_firstFrom l G q r S hS hI (hs_ge S k) k (by rw [hs_ge_b hkR]; exact hs_nk_b hI hkR)) (cwV 1 C0.1.2.2.2.2 gX1_greatest_X1_firstFrom rfl rfl rfl (by decide +kernel) ⟨Nat.le_of_ble_eq_true rfl, Nat.le_of_ble_eq_true rfl⟩) (ci := 1) rfl rfl rfl (gs_nil hz) rfl hl.1 rfl (Nat.le_of_ble_eq_true rfl) dX1_greatest_52 ⟨Nat.le_of_ble_eq_true rfl, Nat.le_of_ble_eq_true rfl⟩ (fun res u9 H locs hp9 hz => ?_)
          replace hz := gs_unnil hz
          rw [hp9.1] at hz
          refine gs_eq (y := nI (hg_at (hs_R S) k)) (by rw [hp9.2, hs_nx_s hkR]; rfl) ?_
          clear hp9
          refine yl_sz C0 hz (hg_at (hs_R S) k) (hat.1) rfl dX1_greatest_55 ?_
          refine gs_eq (y := nI (hs_n S (hg_at (hs_R S) k))) (hS.2.1 _ hat.1) ?_
          refine lv_iadd C0.1.1 C0.1.2.1 dX1_greatest_56 ?_
          refine gs_eq (nI_add (hs_ge S k) (hs_n S (hg_at (hs_R S) k))) ?_
          refine lv_istore_n (lv' := [(2, .int (nI ((hs_ge S k) + (hs_n S (hg_at (hs_R S) k))))), (1, .int (nI (hs_mx S (k + 1)))), (3, .int (nI (hs_ge S k))), (0, .ref (q 0))]) C0.1.1 C0.1.2.1 dX1_greatest_57 rfl hl (by decide) rfl (fun ls hl => ?_)
          refine lv_goto (tgt := 4) C0.1.1 C0.1.2.1 dX1_greatest_58 (by decide) ?_
          have hl : lv_has ls 4 [(0, .ref (q 0)), (1, .int (nI (hs_mx S (k + 1)))), (2, .int (nI ((hs_ge S k) + (hs_n S (hg_at (hs_R S) k)))))] := lv_sub hl [3, 1, 0] rfl
          have hl : lv_has ls 4 [(0, .ref (q 0)), (1, .int (nI (hs_mx S (k + 1)))), (2, .int (nI (hs_wk S (k + 1))))] := by rw [hs_wk_s hkR]; exact hl
          exact ih d' (by omega) (k + 1) ls _ _ hz (by omega)  hl
        · rw [nI_eq (by omega) (by omega)] at c8
          have hkR : k = (hs_R S).length := (hs_ge_1024 hI hk).mp c8
          refine lv_sipush (v := nI 1024) C0.1.1 C0.1.2.1 dX1_greatest_39 (by decide) ?_
          refine lv_goto (tgt := 57) C0.1.1 C0.1.2.1 dX1_greatest_42 (by decide) ?_
          refine lv_istore_n (lv' := [(2, .int (nI 1024)), (1, .int (nI (hs_mx S (k + 1)))), (3, .int (nI (hs_ge S k))), (0, .ref (q 0))]) C0.1.1 C0.1.2.1 dX1_greatest_57 rfl hl (by decide) rfl (fun ls hl => ?_)
          refine lv_goto (tgt := 4) C0.1.1 C0.1.2.1 dX1_greatest_58 (by decide) ?_
          have hl : lv_has ls 4 [(0, .ref (q 0)), (1, .int (nI (hs_mx S (k + 1)))), (2, .int (nI 1024))] := lv_sub hl [3, 1, 0] rfl
          have hl : lv_has ls 4 [(0, .ref (q 0)), (1, .int (nI (hs_mx S (k + 1)))), (2, .int (nI (hs_wk S (k + 1))))] := by rw [hs_wk_l hkR]; exact hl
          exact ih d' (by omega) (k + 1) ls _ _ hz (by omega)  hl
      · rw [nI_leI (by omega) (by omega)] at c2
        refine lv_iload_n C0.1.1 C0.1.2.1 dX1_greatest_24 rfl (lv_at hl 0 rfl) ?_
        refine lv_iload_n C0.1.1 C0.1.2.1 dX1_greatest_25 rfl (lv_at hl 3 rfl) ?_
        refine lv_isub C0.1.1 C0.1.2.1 dX1_greatest_26 ?_
        refine gs_eq (pk_sub (by omega)) ?_
        refine lv_goto (tgt := 31) C0.1.1 C0.1.2.1 dX1_greatest_27 (by decide) ?_
        refine gs_eq (y := nI (hs_mx S (k + 1))) (by rw [hs_mx_b c2]) ?_
        refine lv_istore_n (lv' := [(1, .int (nI (hs_mx S (k + 1)))), (3, .int (nI (hs_ge S k))), (0, .ref (q 0)), (2, .int (nI (hs_gb S k)))]) C0.1.1 C0.1.2.1 dX1_greatest_31 rfl hl (by decide) rfl (fun ls hl => ?_)
        refine lv_iload_n C0.1.1 C0.1.2.1 dX1_greatest_32 rfl (lv_at hl 1 rfl) ?_
        refine lv_sipush (v := nI 1024) C0.1.1 C0.1.2.1 dX1_greatest_33 (by decide) ?_
        refine lv_icmp_ne (tgt := 45) C0.1.1 C0.1.2.1 dX1_greatest_36 (by decide) (fun c8 => ?_) (fun c8 => ?_)
        · rw [nI_eq (by omega) (by omega)] at c8
          have hkR : k < (hs_R S).length := by
            have := hs_ge_1024 hI hk
            omega
          have hat := hI.J.at hkR
          refine lv_iload_n C0.1.1 C0.1.2.1 dX1_greatest_45 rfl (lv_at hl 1 rfl) ?_
          refine lv_aload_n C0.1.1 C0.1.2.1 dX1_greatest_46 rfl (lv_at hl 2 rfl) ?_
          refine yg_sz C0 hin hz l_sz dX1_greatest_47 ?_
          refine lv_aload_n C0.1.1 C0.1.2.1 dX1_greatest_50 rfl (lv_at hl 2 rfl) ?_
          refine lv_iload_n C0.1.1 C0.1.2.1 dX1_greatest_51 rfl (lv_at hl 1 rfl) ?_
          refine gs_callVi (w := yw G q) (wr := []) C0.1 (m_firstFrom l G q r S hS hI (hs_ge S k) k (by rw [hs_ge_b hkR]; exact hs_nk_b hI hkR)) (cwV 1 C0.1.2.2.2.2 gX1_greatest_X1_firstFrom rfl rfl rfl (by decide +kernel) ⟨Nat.le_of_ble_eq_true rfl, Nat.le_of_ble_eq_true rfl⟩) (ci := 1) rfl rfl rfl (gs_nil hz) rfl hl.1 rfl (Nat.le_of_ble_eq_true rfl) dX1_greatest_52 ⟨Nat.le_of_ble_eq_true rfl, Nat.le_of_ble_eq_true rfl⟩ (fun res u9 H locs hp9 hz => ?_)
          replace hz := gs_unnil hz
          rw [hp9.1] at hz
          refine gs_eq (y := nI (hg_at (hs_R S) k)) (by rw [hp9.2, hs_nx_s hkR]; rfl) ?_
          clear hp9
          refine yl_sz C0 hz (hg_at (hs_R S) k) (hat.1) rfl dX1_greatest_55 ?_
          refine gs_eq (y := nI (hs_n S (hg_at (hs_R S) k))) (hS.2.1 _ hat.1) ?_
          refine lv_iadd C0.1.1 C0.1.2.1 dX1_greatest_56 ?_
          refine gs_eq (nI_add (hs_ge S k) (hs_n S (hg_at (hs_R S) k))) ?_
          refine lv_istore_n (lv' := [(2, .int (nI ((hs_ge S k) + (hs_n S (hg_at (hs_R S) k))))), (1, .int (nI (hs_mx S (k + 1)))), (3, .int (nI (hs_ge S k))), (0, .ref (q 0))]) C0.1.1 C0.1.2.1 dX1_greatest_57 rfl hl (by decide) rfl (fun ls hl => ?_)
          refine lv_goto (tgt := 4) C0.1.1 C0.1.2.1 dX1_greatest_58 (by decide) ?_
          have hl : lv_has ls 4 [(0, .ref (q 0)), (1, .int (nI (hs_mx S (k + 1)))), (2, .int (nI ((hs_ge S k) + (hs_n S (hg_at (hs_R S) k)))))] := lv_sub hl [3, 1, 0] rfl
          have hl : lv_has ls 4 [(0, .ref (q 0)), (1, .int (nI (hs_mx S (k + 1)))), (2, .int (nI (hs_wk S (k + 1))))] := by rw [hs_wk_s hkR]; exact hl
          exact ih d' (by omega) (k + 1) ls _ _ hz (by omega)  hl
        · rw [nI_eq (by omega) (by omega)] at c8
          have hkR : k = (hs_R S).length := (hs_ge_1024 hI hk).mp c8
          refine lv_sipush (v := nI 1024) C0.1.1 C0.1.2.1 dX1_greatest_39 (by decide) ?_
          refine lv_goto (tgt := 57) C0.1.1 C0.1.2.1 dX1_greatest_42 (by decide) ?_
          refine lv_istore_n (lv' := [(2, .int (nI 1024)), (1, .int (nI (hs_mx S (k + 1)))), (3, .int (nI (hs_ge S k))), (0, .ref (q 0))]) C0.1.1 C0.1.2.1 dX1_greatest_57 rfl hl (by decide) rfl (fun ls hl => ?_)
          refine lv_goto (tgt := 4) C0.1.1 C0.1.2.1 dX1_greatest_58 (by decide) ?_
          have hl : lv_has ls 4 [(0, .ref (q 0)), (1, .int (nI (hs_mx S (k + 1)))), (2, .int (nI 1024))] := lv_sub hl [3, 1, 0] rfl
          have hl : lv_has ls 4 [(0, .ref (q 0)), (1, .int (nI (hs_mx S (k + 1)))), (2, .int (nI (hs_wk S (k + 1))))] := by rw [hs_wk_l hkR]; exact hl
          exact ih d' (by omega) (k + 1) ls _ _ hz (by omega)  hl
set_option maxHeartbeats 4000000 in
set_option maxRecDepth 100000 in
/-- free -/
theorem m_free (l : Launch) (G : gs_G) (q : Nat → Nat) (r : yr) (S : hs_S) (hS : ry S r) (hI : hs_I S) (bl : Bool) : gm_i l yX1_free wsX1_free (gm_rm 4 0 0) G (yw G q) r [.ref (q 0), .int (bI bl)] (fun res u => u = r ∧ res = nI (hs_fr S bl ((hs_R S).length + 1))) 0 0 := by
  refine gm_i.of (cc := cX1_free) (nL := 5) (ret := (some .int)) (by decide +kernel) rfl (Nat.le_of_ble_eq_true rfl) ?_
  intro p e s m args below meth c ls C0 hz hl
  have hin : ∀ w ∈ wsX10, w ∈ wsX1_free := by decide +kernel
  have l_sz : Cond.fieldLink RX1 17 "HandleHeapModel" "size" "[I" ∈ wsX1_free := by decide +kernel
  have hl : lv_has ls 5 [(0, .ref (q 0)), (1, .int (bI bl))] := hl
  have hlen := hI.J.len
  refine lv_iconst (v := nI 0) C0.1.1 C0.1.2.1 dX1_free_0 (by decide) ?_
  refine lv_istore_n (lv' := [(2, .int (nI 0)), (0, .ref (q 0)), (1, .int (bI bl))]) C0.1.1 C0.1.2.1 dX1_free_1 rfl hl (by decide) rfl (fun ls hl => ?_)
  refine lv_iconst (v := nI 0) C0.1.1 C0.1.2.1 dX1_free_2 (by decide) ?_
  refine lv_istore_n (lv' := [(3, .int (nI 0)), (2, .int (nI 0)), (0, .ref (q 0)), (1, .int (bI bl))]) C0.1.1 C0.1.2.1 dX1_free_3 rfl hl (by decide) rfl (fun ls hl => ?_)
  have hl : lv_has ls 5 [(0, .ref (q 0)), (1, .int (bI bl)), (2, .int (nI 0)), (3, .int (nI 0))] := lv_sub hl [2, 3, 1, 0] rfl
  have hl : lv_has ls 5 [(0, .ref (q 0)), (1, .int (bI bl)), (2, .int (nI (hs_fr S bl 0))), (3, .int (nI (hs_wk S 0)))] := by rw [hs_wk_0, hs_fr_0]; exact hl
  refine (?loop : ∀ (d k : Nat) (ls : Array Slot) (H : Heap) (locs : List Loc), gs_Z G (yw G q r) _ s H locs → k + d = (hs_R S).length + 1 → lv_has ls 5 [(0, .ref (q 0)), (1, .int (bI bl)), (2, .int (nI (hs_fr S bl k))), (3, .int (nI (hs_wk S k)))] → W p l e _ s m args below meth c H locs 0 0 _ (F0 m 4 ls [])) _ 0 ls _ _ hz (Nat.zero_add _) hl
  intro d
  induction d using Nat.strongRecOn with
  | _ d ih =>
    intro k ls H locs hz hd hl
    have hw := hs_wk_le hI (k := k) (by omega)
    refine lv_iload_n C0.1.1 C0.1.2.1 dX1_free_4 rfl (lv_at hl 3 rfl) ?_
    refine lv_sipush (v := nI 1024) C0.1.1 C0.1.2.1 dX1_free_5 (by decide) ?_
    refine lv_icmp_ge (tgt := 77) C0.1.1 C0.1.2.1 dX1_free_8 (by decide) (fun c1 => ?_) (fun c1 => ?_)
    · rw [nI_leI (by omega) (by omega)] at c1
      refine lv_iload_n C0.1.1 C0.1.2.1 dX1_free_77 rfl (lv_at hl 2 rfl) ?_
      exact gs_reti r C0 hz (⟨rfl, by rw [hs_fr_end hI hd c1]⟩) (Nat.le_of_ble_eq_true rfl) (Nat.le_of_ble_eq_true rfl) dX1_free_78
    · rw [nI_leI (by omega) (by omega)] at c1
      have hk := hs_wk_no hd c1
      obtain ⟨d', rfl⟩ : ∃ d', d = d' + 1 := ⟨d - 1, by omega⟩
      have hge := hs_ge_le hI hk
      have hgl := hs_gl_e (S := S) (k := k)
      rw [hs_wk_k hk] at hl
      refine lv_aload_n C0.1.1 C0.1.2.1 dX1_free_11 rfl (lv_at hl 0 rfl) ?_
      refine lv_iload_n C0.1.1 C0.1.2.1 dX1_free_12 rfl (lv_at hl 3 rfl) ?_
      refine gs_callVi (w := yw G q) (wr := []) C0.1 (m_freeTo l G q r S hS hI (hs_gb S k) k (hs_nk_gb hI hk)) (cwV 1 C0.1.2.2.2.2 gX1_free_X1_freeTo rfl rfl rfl (by decide +kernel) ⟨Nat.le_of_ble_eq_true rfl, Nat.le_of_ble_eq_true rfl⟩) (ci := 1) rfl rfl rfl (gs_nil hz) rfl hl.1 rfl (Nat.le_of_ble_eq_true rfl) dX1_free_13 ⟨Nat.le_of_ble_eq_true rfl, Nat.le_of_ble_eq_true rfl⟩ (fun res u9 H locs hp9 hz => ?_)
      replace hz := gs_unnil hz
      rw [hp9.1] at hz
      refine gs_eq (y := nI (hs_ge S k)) (hp9.2) ?_
      clear hp9
      refine lv_istore (lv' := [(4, .int (nI (hs_ge S k))), (0, .ref (q 0)), (1, .int (bI bl)), (2, .int (nI (hs_fr S bl k))), (3, .int (nI (hs_gb S k)))]) C0.1.1 C0.1.2.1 dX1_free_16 hl (by decide) rfl (fun ls hl => ?_)
      refine lv_iload C0.1.1 C0.1.2.1 dX1_free_18 (lv_at hl 0 rfl) ?_
      refine lv_iload_n C0.1.1 C0.1.2.1 dX1_free_20 rfl (lv_at hl 4 rfl) ?_
      refine lv_icmp_le (tgt := 43) C0.1.1 C0.1.2.1 dX1_free_21 (by decide) (fun c2 => ?_) (fun c2 => ?_)
      · rw [nI_leI (by omega) (by omega)] at c2
        refine lv_iload_n C0.1.1 C0.1.2.1 dX1_free_43 rfl (lv_at hl 3 rfl) ?_
        refine gs_eq (y := nI (hs_fr S bl (k + 1))) (by rw [hs_fr_z (by omega)]) ?_
        refine lv_istore_n (lv' := [(2, .int (nI (hs_fr S bl (k + 1)))), (4, .int (nI (hs_ge S k))), (0, .ref (q 0)), (1, .int (bI bl)), (3, .int (nI (hs_gb S k)))]) C0.1.1 C0.1.2.1 dX1_free_44 rfl hl (by decide) rfl (fun ls hl => ?_)
        refine lv_iload C0.1.1 C0.1.2.1 dX1_free_45 (lv_at hl 1 rfl) ?_
        refine lv_sipush (v := nI 1024) C0.1.1 C0.1.2.1 dX1_free_47 (by decide) ?_
        refine lv_icmp_ne (tgt := 59) C0.1.1 C0.1.2.1 dX1_free_50 (by decide) (fun c8 => ?_) (fun c8 => ?_)
        · rw [nI_eq (by omega) (by omega)] at c8
          have hkR : k < (hs_R S).length := by
            have := hs_ge_1024 hI hk
            omega
          have hat := hI.J.at hkR
          refine lv_iload C0.1.1 C0.1.2.1 dX1_free_59 (lv_at hl 1 rfl) ?_
          refine lv_aload_n C0.1.1 C0.1.2.1 dX1_free_61 rfl (lv_at hl 2 rfl) ?_
          refine yg_sz C0 hin hz l_sz dX1_free_62 ?_
          refine lv_aload_n C0.1.1 C0.1.2.1 dX1_free_65 rfl (lv_at hl 2 rfl) ?_
          refine lv_iload C0.1.1 C0.1.2.1 dX1_free_66 (lv_at hl 1 rfl) ?_
          refine gs_callVi (w := yw G q) (wr := []) C0.1 (m_firstFrom l G q r S hS hI (hs_ge S k) k (by rw [hs_ge_b hkR]; exact hs_nk_b hI hkR)) (cwV 1 C0.1.2.2.2.2 gX1_free_X1_firstFrom rfl rfl rfl (by decide +kernel) ⟨Nat.le_of_ble_eq_true rfl, Nat.le_of_ble_eq_true rfl⟩) (ci := 1) rfl rfl rfl (gs_nil hz) rfl hl.1 rfl (Nat.le_of_ble_eq_true rfl) dX1_free_68 ⟨Nat.le_of_ble_eq_true rfl, Nat.le_of_ble_eq_true rfl⟩ (fun res u9 H locs hp9 hz => ?_)
          replace hz := gs_unnil hz
          rw [hp9.1] at hz
          refine gs_eq (y := nI (hg_at (hs_R S) k)) (by rw [hp9.2, hs_nx_s hkR]; rfl) ?_
          clear hp9
          refine yl_sz C0 hz (hg_at (hs_R S) k) (hat.1) rfl dX1_free_71 ?_
          refine gs_eq (y := nI (hs_n S (hg_at (hs_R S) k))) (hS.2.1 _ hat.1) ?_
          refine lv_iadd C0.1.1 C0.1.2.1 dX1_free_72 ?_
          refine gs_eq (nI_add (hs_ge S k) (hs_n S (hg_at (hs_R S) k))) ?_
          refine lv_istore_n (lv' := [(3, .int (nI ((hs_ge S k) + (hs_n S (hg_at (hs_R S) k))))), (2, .int (nI (hs_fr S bl (k + 1)))), (4, .int (nI (hs_ge S k))), (0, .ref (q 0)), (1, .int (bI bl))]) C0.1.1 C0.1.2.1 dX1_free_73 rfl hl (by decide) rfl (fun ls hl => ?_)
          refine lv_goto (tgt := 4) C0.1.1 C0.1.2.1 dX1_free_74 (by decide) ?_
          have hl : lv_has ls 5 [(0, .ref (q 0)), (1, .int (bI bl)), (2, .int (nI (hs_fr S bl (k + 1)))), (3, .int (nI ((hs_ge S k) + (hs_n S (hg_at (hs_R S) k)))))] := lv_sub hl [3, 4, 1, 0] rfl
          have hl : lv_has ls 5 [(0, .ref (q 0)), (1, .int (bI bl)), (2, .int (nI (hs_fr S bl (k + 1)))), (3, .int (nI (hs_wk S (k + 1))))] := by rw [hs_wk_s hkR]; exact hl
          exact ih d' (by omega) (k + 1) ls _ _ hz (by omega)  hl
        · rw [nI_eq (by omega) (by omega)] at c8
          have hkR : k = (hs_R S).length := (hs_ge_1024 hI hk).mp c8
          refine lv_sipush (v := nI 1024) C0.1.1 C0.1.2.1 dX1_free_53 (by decide) ?_
          refine lv_goto (tgt := 73) C0.1.1 C0.1.2.1 dX1_free_56 (by decide) ?_
          refine lv_istore_n (lv' := [(3, .int (nI 1024)), (2, .int (nI (hs_fr S bl (k + 1)))), (4, .int (nI (hs_ge S k))), (0, .ref (q 0)), (1, .int (bI bl))]) C0.1.1 C0.1.2.1 dX1_free_73 rfl hl (by decide) rfl (fun ls hl => ?_)
          refine lv_goto (tgt := 4) C0.1.1 C0.1.2.1 dX1_free_74 (by decide) ?_
          have hl : lv_has ls 5 [(0, .ref (q 0)), (1, .int (bI bl)), (2, .int (nI (hs_fr S bl (k + 1)))), (3, .int (nI 1024))] := lv_sub hl [3, 4, 1, 0] rfl
          have hl : lv_has ls 5 [(0, .ref (q 0)), (1, .int (bI bl)), (2, .int (nI (hs_fr S bl (k + 1)))), (3, .int (nI (hs_wk S (k + 1))))] := by rw [hs_wk_l hkR]; exact hl
          exact ih d' (by omega) (k + 1) ls _ _ hz (by omega)  hl
      · rw [nI_leI (by omega) (by omega)] at c2
        refine lv_iload_n C0.1.1 C0.1.2.1 dX1_free_24 rfl (lv_at hl 2 rfl) ?_
        refine lv_if_eq (tgt := 34) C0.1.1 C0.1.2.1 dX1_free_25 (by decide) (fun c3 => ?_) (fun c3 => ?_)
        · skip
          rw [bI_0] at c3
          refine lv_iload_n C0.1.1 C0.1.2.1 dX1_free_34 rfl (lv_at hl 3 rfl) ?_
          refine lv_iload C0.1.1 C0.1.2.1 dX1_free_35 (lv_at hl 0 rfl) ?_
          refine lv_iadd C0.1.1 C0.1.2.1 dX1_free_37 ?_
          refine gs_eq (nI_add (hs_fr S bl k) (hs_ge S k)) ?_
          refine lv_iload_n C0.1.1 C0.1.2.1 dX1_free_38 rfl (lv_at hl 4 rfl) ?_
          refine lv_isub C0.1.1 C0.1.2.1 dX1_free_39 ?_
          refine gs_eq (pk_sub (by omega)) ?_
          refine lv_goto (tgt := 44) C0.1.1 C0.1.2.1 dX1_free_40 (by decide) ?_
          refine gs_eq (y := nI (hs_fr S bl (k + 1))) (by rw [← hs_fr_f c3, hgl, Nat.add_sub_assoc (by omega)]) ?_
          refine lv_istore_n (lv' := [(2, .int (nI (hs_fr S bl (k + 1)))), (4, .int (nI (hs_ge S k))), (0, .ref (q 0)), (1, .int (bI bl)), (3, .int (nI (hs_gb S k)))]) C0.1.1 C0.1.2.1 dX1_free_44 rfl hl (by decide) rfl (fun ls hl => ?_)
          refine lv_iload C0.1.1 C0.1.2.1 dX1_free_45 (lv_at hl 1 rfl) ?_
          refine lv_sipush (v := nI 1024) C0.1.1 C0.1.2.1 dX1_free_47 (by decide) ?_
          refine lv_icmp_ne (tgt := 59) C0.1.1 C0.1.2.1 dX1_free_50 (by decide) (fun c8 => ?_) (fun c8 => ?_)
          · rw [nI_eq (by omega) (by omega)] at c8
            have hkR : k < (hs_R S).length := by
              have := hs_ge_1024 hI hk
              omega
            have hat := hI.J.at hkR
            refine lv_iload C0.1.1 C0.1.2.1 dX1_free_59 (lv_at hl 1 rfl) ?_
            refine lv_aload_n C0.1.1 C0.1.2.1 dX1_free_61 rfl (lv_at hl 2 rfl) ?_
            refine yg_sz C0 hin hz l_sz dX1_free_62 ?_
            refine lv_aload_n C0.1.1 C0.1.2.1 dX1_free_65 rfl (lv_at hl 2 rfl) ?_
            refine lv_iload C0.1.1 C0.1.2.1 dX1_free_66 (lv_at hl 1 rfl) ?_
            refine gs_callVi (w := yw G q) (wr := []) C0.1 (m_firstFrom l G q r S hS hI (hs_ge S k) k (by rw [hs_ge_b hkR]; exact hs_nk_b hI hkR)) (cwV 1 C0.1.2.2.2.2 gX1_free_X1_firstFrom rfl rfl rfl (by decide +kernel) ⟨Nat.le_of_ble_eq_true rfl, Nat.le_of_ble_eq_true rfl⟩) (ci := 1) rfl rfl rfl (gs_nil hz) rfl hl.1 rfl (Nat.le_of_ble_eq_true rfl) dX1_free_68 ⟨Nat.le_of_ble_eq_true rfl, Nat.le_of_ble_eq_true rfl⟩ (fun res u9 H locs hp9 hz => ?_)
            replace hz := gs_unnil hz
            rw [hp9.1] at hz
            refine gs_eq (y := nI (hg_at (hs_R S) k)) (by rw [hp9.2, hs_nx_s hkR]; rfl) ?_
            clear hp9
            refine yl_sz C0 hz (hg_at (hs_R S) k) (hat.1) rfl dX1_free_71 ?_
            refine gs_eq (y := nI (hs_n S (hg_at (hs_R S) k))) (hS.2.1 _ hat.1) ?_
            refine lv_iadd C0.1.1 C0.1.2.1 dX1_free_72 ?_
            refine gs_eq (nI_add (hs_ge S k) (hs_n S (hg_at (hs_R S) k))) ?_
            refine lv_istore_n (lv' := [(3, .int (nI ((hs_ge S k) + (hs_n S (hg_at (hs_R S) k))))), (2, .int (nI (hs_fr S bl (k + 1)))), (4, .int (nI (hs_ge S k))), (0, .ref (q 0)), (1, .int (bI bl))]) C0.1.1 C0.1.2.1 dX1_free_73 rfl hl (by decide) rfl (fun ls hl => ?_)
            refine lv_goto (tgt := 4) C0.1.1 C0.1.2.1 dX1_free_74 (by decide) ?_
            have hl : lv_has ls 5 [(0, .ref (q 0)), (1, .int (bI bl)), (2, .int (nI (hs_fr S bl (k + 1)))), (3, .int (nI ((hs_ge S k) + (hs_n S (hg_at (hs_R S) k)))))] := lv_sub hl [3, 4, 1, 0] rfl
            have hl : lv_has ls 5 [(0, .ref (q 0)), (1, .int (bI bl)), (2, .int (nI (hs_fr S bl (k + 1)))), (3, .int (nI (hs_wk S (k + 1))))] := by rw [hs_wk_s hkR]; exact hl
            exact ih d' (by omega) (k + 1) ls _ _ hz (by omega)  hl
          · rw [nI_eq (by omega) (by omega)] at c8
            have hkR : k = (hs_R S).length := (hs_ge_1024 hI hk).mp c8
            refine lv_sipush (v := nI 1024) C0.1.1 C0.1.2.1 dX1_free_53 (by decide) ?_
            refine lv_goto (tgt := 73) C0.1.1 C0.1.2.1 dX1_free_56 (by decide) ?_
            refine lv_istore_n (lv' := [(3, .int (nI 1024)), (2, .int (nI (hs_fr S bl (k + 1)))), (4, .int (nI (hs_ge S k))), (0, .ref (q 0)), (1, .int (bI bl))]) C0.1.1 C0.1.2.1 dX1_free_73 rfl hl (by decide) rfl (fun ls hl => ?_)
            refine lv_goto (tgt := 4) C0.1.1 C0.1.2.1 dX1_free_74 (by decide) ?_
            have hl : lv_has ls 5 [(0, .ref (q 0)), (1, .int (bI bl)), (2, .int (nI (hs_fr S bl (k + 1)))), (3, .int (nI 1024))] := lv_sub hl [3, 4, 1, 0] rfl
            have hl : lv_has ls 5 [(0, .ref (q 0)), (1, .int (bI bl)), (2, .int (nI (hs_fr S bl (k + 1)))), (3, .int (nI (hs_wk S (k + 1))))] := by rw [hs_wk_l hkR]; exact hl
            exact ih d' (by omega) (k + 1) ls _ _ hz (by omega)  hl
        · skip
          rw [bI_0, Bool.not_eq_false] at c3
          refine lv_iload_n C0.1.1 C0.1.2.1 dX1_free_28 rfl (lv_at hl 3 rfl) ?_
          refine lv_iconst (v := nI 1) C0.1.1 C0.1.2.1 dX1_free_29 (by decide) ?_
          refine lv_iadd C0.1.1 C0.1.2.1 dX1_free_30 ?_
          refine gs_eq (nI_add (hs_fr S bl k) 1) ?_
          refine lv_goto (tgt := 44) C0.1.1 C0.1.2.1 dX1_free_31 (by decide) ?_
          refine gs_eq (y := nI (hs_fr S bl (k + 1))) (by rw [← hs_fr_t c3 (by omega)]) ?_
          refine lv_istore_n (lv' := [(2, .int (nI (hs_fr S bl (k + 1)))), (4, .int (nI (hs_ge S k))), (0, .ref (q 0)), (1, .int (bI bl)), (3, .int (nI (hs_gb S k)))]) C0.1.1 C0.1.2.1 dX1_free_44 rfl hl (by decide) rfl (fun ls hl => ?_)
          refine lv_iload C0.1.1 C0.1.2.1 dX1_free_45 (lv_at hl 1 rfl) ?_
          refine lv_sipush (v := nI 1024) C0.1.1 C0.1.2.1 dX1_free_47 (by decide) ?_
          refine lv_icmp_ne (tgt := 59) C0.1.1 C0.1.2.1 dX1_free_50 (by decide) (fun c8 => ?_) (fun c8 => ?_)
          · rw [nI_eq (by omega) (by omega)] at c8
            have hkR : k < (hs_R S).length := by
              have := hs_ge_1024 hI hk
              omega
            have hat := hI.J.at hkR
            refine lv_iload C0.1.1 C0.1.2.1 dX1_free_59 (lv_at hl 1 rfl) ?_
            refine lv_aload_n C0.1.1 C0.1.2.1 dX1_free_61 rfl (lv_at hl 2 rfl) ?_
            refine yg_sz C0 hin hz l_sz dX1_free_62 ?_
            refine lv_aload_n C0.1.1 C0.1.2.1 dX1_free_65 rfl (lv_at hl 2 rfl) ?_
            refine lv_iload C0.1.1 C0.1.2.1 dX1_free_66 (lv_at hl 1 rfl) ?_
            refine gs_callVi (w := yw G q) (wr := []) C0.1 (m_firstFrom l G q r S hS hI (hs_ge S k) k (by rw [hs_ge_b hkR]; exact hs_nk_b hI hkR)) (cwV 1 C0.1.2.2.2.2 gX1_free_X1_firstFrom rfl rfl rfl (by decide +kernel) ⟨Nat.le_of_ble_eq_true rfl, Nat.le_of_ble_eq_true rfl⟩) (ci := 1) rfl rfl rfl (gs_nil hz) rfl hl.1 rfl (Nat.le_of_ble_eq_true rfl) dX1_free_68 ⟨Nat.le_of_ble_eq_true rfl, Nat.le_of_ble_eq_true rfl⟩ (fun res u9 H locs hp9 hz => ?_)
            replace hz := gs_unnil hz
            rw [hp9.1] at hz
            refine gs_eq (y := nI (hg_at (hs_R S) k)) (by rw [hp9.2, hs_nx_s hkR]; rfl) ?_
            clear hp9
            refine yl_sz C0 hz (hg_at (hs_R S) k) (hat.1) rfl dX1_free_71 ?_
            refine gs_eq (y := nI (hs_n S (hg_at (hs_R S) k))) (hS.2.1 _ hat.1) ?_
            refine lv_iadd C0.1.1 C0.1.2.1 dX1_free_72 ?_
            refine gs_eq (nI_add (hs_ge S k) (hs_n S (hg_at (hs_R S) k))) ?_
            refine lv_istore_n (lv' := [(3, .int (nI ((hs_ge S k) + (hs_n S (hg_at (hs_R S) k))))), (2, .int (nI (hs_fr S bl (k + 1)))), (4, .int (nI (hs_ge S k))), (0, .ref (q 0)), (1, .int (bI bl))]) C0.1.1 C0.1.2.1 dX1_free_73 rfl hl (by decide) rfl (fun ls hl => ?_)
            refine lv_goto (tgt := 4) C0.1.1 C0.1.2.1 dX1_free_74 (by decide) ?_
            have hl : lv_has ls 5 [(0, .ref (q 0)), (1, .int (bI bl)), (2, .int (nI (hs_fr S bl (k + 1)))), (3, .int (nI ((hs_ge S k) + (hs_n S (hg_at (hs_R S) k)))))] := lv_sub hl [3, 4, 1, 0] rfl
            have hl : lv_has ls 5 [(0, .ref (q 0)), (1, .int (bI bl)), (2, .int (nI (hs_fr S bl (k + 1)))), (3, .int (nI (hs_wk S (k + 1))))] := by rw [hs_wk_s hkR]; exact hl
            exact ih d' (by omega) (k + 1) ls _ _ hz (by omega)  hl
          · rw [nI_eq (by omega) (by omega)] at c8
            have hkR : k = (hs_R S).length := (hs_ge_1024 hI hk).mp c8
            refine lv_sipush (v := nI 1024) C0.1.1 C0.1.2.1 dX1_free_53 (by decide) ?_
            refine lv_goto (tgt := 73) C0.1.1 C0.1.2.1 dX1_free_56 (by decide) ?_
            refine lv_istore_n (lv' := [(3, .int (nI 1024)), (2, .int (nI (hs_fr S bl (k + 1)))), (4, .int (nI (hs_ge S k))), (0, .ref (q 0)), (1, .int (bI bl))]) C0.1.1 C0.1.2.1 dX1_free_73 rfl hl (by decide) rfl (fun ls hl => ?_)
            refine lv_goto (tgt := 4) C0.1.1 C0.1.2.1 dX1_free_74 (by decide) ?_
            have hl : lv_has ls 5 [(0, .ref (q 0)), (1, .int (bI bl)), (2, .int (nI (hs_fr S bl (k + 1)))), (3, .int (nI 1024))] := lv_sub hl [3, 4, 1, 0] rfl
            have hl : lv_has ls 5 [(0, .ref (q 0)), (1, .int (bI bl)), (2, .int (nI (hs_fr S bl (k + 1)))), (3, .int (nI (hs_wk S (k + 1))))] := by rw [hs_wk_l hkR]; exact hl
            exact ih d' (by omega) (k + 1) ls _ _ hz (by omega)  hl
