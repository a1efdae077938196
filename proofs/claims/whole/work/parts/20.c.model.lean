/-! THE REFERENCE: sliding, losing, room, checks, a block made -/
theorem in_of {lo hi : Nat} {x : Int32} (hh : hi < 2 ^ 31) (hl : lo ≤ hi) (h1 : ¬ x < nI lo) (h2 : x ≤ nI hi) : ∃ n, lo ≤ n ∧ n ≤ hi ∧ x = nI n := by
  have h3 : nd lo hi x = some x.toNatClampNeg := if_pos ⟨Int32.not_lt.mp h1, h2⟩
  exact ⟨_, nd_some hh hl h3⟩
theorem in_lo {lo hi : Nat} {x : Int32} (hh : hi < 2 ^ 31) (hl : lo ≤ hi) (h1 : x < nI lo) : ¬ ∃ n, lo ≤ n ∧ n ≤ hi ∧ x = nI n := by
  rintro ⟨n, g1, g2, rfl⟩
  rw [nI_ltI (by omega) (by omega)] at h1
  omega
theorem in_hi {lo hi : Nat} {x : Int32} (hh : hi < 2 ^ 31) (h1 : ¬ x ≤ nI hi) : ¬ ∃ n, lo ≤ n ∧ n ≤ hi ∧ x = nI n := by
  rintro ⟨n, g1, g2, rfl⟩
  rw [nI_leI (by omega) (by omega)] at h1
  omega
theorem ry_go1 {S : hs_S} {r : yr} (hS : ry S r) {h a : Nat} (hne : a ≠ hs_b S h) : ry (hs_go S h a) (ys_mv (ys_bg r (upd (y_bg r) h (nI a))) (y_mv r + nI (hs_n S h))) := by
  obtain ⟨h1, h2, h3, h4, h5, h6⟩ := hS
  refine ⟨h1, h2, fun g hg hu => ?_, h4, ?_, h6⟩
  · have h7 := h3 g hg hu
    refine ⟨?_, h7.2⟩
    show upd (y_bg r) h (nI a) g = nI (va_up (hs_b S) h a g)
    by_cases q : g = h
    · subst q; rw [pk_us, va_up_self]
    · rw [pk_un q, va_up_ne _ _ q]; exact h7.1
  · show y_mv r + nI (hs_n S h) = if a = hs_b S h then hs_m S else hs_m S + nI (hs_n S h)
    rw [if_neg hne, h5]
theorem ry_go0 {S : hs_S} {r : yr} (hS : ry S r) {h a : Nat} (he : a = hs_b S h) : ry (hs_go S h a) r := by
  obtain ⟨h1, h2, h3, h4, h5, h6⟩ := hS
  refine ⟨h1, h2, fun g hg hu => ?_, h4, ?_, h6⟩
  · have h7 := h3 g hg hu
    refine ⟨?_, h7.2⟩
    show y_bg r g = nI (va_up (hs_b S) h a g)
    by_cases q : g = h
    · subst q; rw [va_up_self, he]; exact h7.1
    · rw [va_up_ne _ _ q]; exact h7.1
  · show y_mv r = if a = hs_b S h then hs_m S else hs_m S + nI (hs_n S h)
    rw [if_pos he, h5]
theorem ry_gu {S : hs_S} {r : yr} (hS : ry S r) {h : Nat} (hh : h < 48) (hu2 : hs_u S h = 2) : ry (hs_gu S h) (ys_lo (ys_sz r (upd (y_sz r) h (nI 0))) (y_lo r + nI 1)) := by
  obtain ⟨h1, h2, h3, h4, h5, h6⟩ := hS
  have hne : ∀ g, hs_u (hs_gu S h) g = 2 → g ≠ h := fun g z e => by
    have z2 : va_up (hs_u S) h 1 g = 2 := z
    rw [e, va_up_self] at z2
    exact absurd z2 (by decide)
  have hu3 : ∀ g, hs_u (hs_gu S h) g = 2 → hs_u S g = 2 := fun g z => by
    have z2 : va_up (hs_u S) h 1 g = 2 := z
    rw [va_up_ne _ _ (hne g z)] at z2
    exact z2
  refine ⟨fun g hg => ?_, fun g hg => ?_, fun g hg hu => h3 g hg (hu3 g hu), fun g hg hu i hi => ?_, h5, ?_⟩
  · show y_us r g = bI (decide (va_up (hs_u S) h 1 g ≠ 0))
    by_cases q : g = h
    · subst q; rw [va_up_self, h1 g hg, hu2]; rfl
    · rw [va_up_ne _ _ q]; exact h1 g hg
  · show upd (y_sz r) h (nI 0) g = nI (va_up (hs_n S) h 0 g)
    by_cases q : g = h
    · subst q; rw [pk_us, va_up_self]
    · rw [pk_un q, va_up_ne _ _ q]; exact h2 g hg
  · have hi2 : i < va_up (hs_n S) h 0 g := hi
    rw [va_up_ne _ _ (hne g hu)] at hi2
    exact h4 g hg (hu3 g hu) i hi2
  · show y_lo r + nI 1 = hs_x S + 1
    rw [h6]; rfl
theorem hg_out_lt {R : List Nat} {h : Nat} (hm : h ∈ R) : (hg_out R h).length < R.length := by
  unfold hg_out
  rw [List.length_filter_lt_length_iff_exists]
  exact ⟨h, hm, by rw [decide_eq_true_iff]; exact fun z => z rfl⟩
theorem hs_rm_s {n but d : Nat} {T : hs_S} {k : Nat} (e : hs_pk T n = some k) : hs_rm n but d T = (T, some k) := by
  cases d with
  | zero => rw [hs_rm, e]
  | succ d => rw [hs_rm, e]
theorem hs_rm_n {n but d : Nat} {T : hs_S} (e : hs_pk T n = none) (e2 : hs_l1 T but = none) : hs_rm n but d T = (T, none) := by
  cases d with
  | zero => rw [hs_rm, e]
  | succ d => rw [hs_rm, e]; dsimp only; rw [e2]
theorem hs_rm_l {n but d : Nat} {T : hs_S} {x : Nat} (e : hs_pk T n = none) (e2 : hs_l1 T but = some x) : hs_rm n but (d + 1) T = hs_rm n but d (hs_sl (hs_gu T x)) := by
  rw [hs_rm, e]; dsimp only; rw [e2]
theorem hs_room_s {S : hs_S} {n but k : Nat} (e : hs_pk S n = some k) : hs_room S n but = (S, some k) := by
  unfold hs_room; rw [e]
theorem hs_room_n {S : hs_S} {n but : Nat} (e : hs_pk S n = none) : hs_room S n but = hs_rm n but 48 (hs_sl S) := by
  unfold hs_room; rw [e]
def mfl (f : Nat → Int32) (x y : Nat) : Nat → Int32 := fun j => if x ≤ j ∧ j < y then nI 0 else f j
theorem mfl_st {f : Nat → Int32} {x k : Nat} (h : x ≤ k) : upd (mfl f x k) k (nI 0) = mfl f x (k + 1) := fl_st h
theorem mfl_0 {f : Nat → Int32} {x : Nat} : f = mfl f x x := fl_0
theorem mfl_in {f : Nat → Int32} {x y j : Nat} (h1 : x ≤ j) (h2 : j < y) : mfl f x y j = nI 0 := if_pos ⟨h1, h2⟩
theorem mfl_out {f : Nat → Int32} {x y j : Nat} (h : j < x ∨ y ≤ j) : mfl f x y j = f j := if_neg (by omega)
set_option maxHeartbeats 4000000 in
set_option maxRecDepth 100000 in
/-- slideAll -/
theorem m_slideAll (l : Launch) (G : gs_G) (q : Nat → Nat) (r : yr) (S : hs_S) (hS : ry S r) (hI : hs_I S) : gm_v l yX1_slideAll wsX1_slideAll (gm_rm 3 0 0) G (yw G q) r [.ref (q 0)] (fun u => ry (hs_sl S) u ∧ y_th u = y_th r) 0 0 := by
  refine gm_v.of (cc := cX1_slideAll) (nL := 3) (ret := none) (by decide +kernel) rfl (Nat.le_of_ble_eq_true rfl) ?_
  intro p e s m args below meth c ls C0 hz hl
  have hin : ∀ w ∈ wsX10, w ∈ wsX1_slideAll := by decide +kernel
  have l_bg : Cond.fieldLink RX1 13 "HandleHeapModel" "begin" "[I" ∈ wsX1_slideAll := by decide +kernel
  have l_mv : Cond.fieldLink RX1 51 "HandleHeapModel" "moved" "I" ∈ wsX1_slideAll := by decide +kernel
  have l_sz : Cond.fieldLink RX1 17 "HandleHeapModel" "size" "[I" ∈ wsX1_slideAll := by decide +kernel
  have hl : lv_has ls 3 [(0, .ref (q 0))] := hl
  have hlen := hI.J.len
  refine lv_iconst (v := nI 0) C0.1.1 C0.1.2.1 dX1_slideAll_0 (by decide) ?_
  refine lv_istore_n (lv' := [(1, .int (nI 0)), (0, .ref (q 0))]) C0.1.1 C0.1.2.1 dX1_slideAll_1 rfl hl (by decide) rfl (fun ls hl => ?_)
  refine lv_aload_n C0.1.1 C0.1.2.1 dX1_slideAll_2 rfl (lv_at hl 1 rfl) ?_
  refine lv_iconst (v := nI 0) C0.1.1 C0.1.2.1 dX1_slideAll_3 (by decide) ?_
  refine gs_callVi (w := yw G q) (wr := []) C0.1 (m_firstFrom l G q r S hS hI 0 0 (hs_nk_gb hI (Nat.zero_le _))) (cwV 1 C0.1.2.2.2.2 gX1_slideAll_X1_firstFrom rfl rfl rfl (by decide +kernel) ⟨Nat.le_of_ble_eq_true rfl, Nat.le_of_ble_eq_true rfl⟩) (ci := 1) rfl rfl rfl (gs_nil hz) rfl hl.1 rfl (Nat.le_of_ble_eq_true rfl) dX1_slideAll_4 ⟨Nat.le_of_ble_eq_true rfl, Nat.le_of_ble_eq_true rfl⟩ (fun res u9 H locs hp9 hz => ?_)
  replace hz := gs_unnil hz
  rw [hp9.1] at hz
  refine gs_eq (y := oi (hs_nx S 0)) (hp9.2) ?_
  clear hp9
  refine lv_istore_n (lv' := [(2, .int (oi (hs_nx S 0))), (1, .int (nI 0)), (0, .ref (q 0))]) C0.1.1 C0.1.2.1 dX1_slideAll_7 rfl hl (by decide) rfl (fun ls hl => ?_)
  have hl : lv_has ls 3 [(0, .ref (q 0)), (1, .int (nI 0)), (2, .int (oi (hs_nx S 0)))] := lv_sub hl [2, 1, 0] rfl
  refine (?loop : ∀ (d k : Nat) (rk : yr) (ls : Array Slot) (H : Heap) (locs : List Loc), gs_Z G (yw G q rk) _ s H locs → k + d = (hs_R S).length → ry (hs_slk S k) rk → y_th rk = y_th r → lv_has ls 3 [(0, .ref (q 0)), (1, .int (nI (hs_gb (hs_slk S k) k))), (2, .int (oi (hs_nx S k)))] → W p l e _ s m args below meth c H locs 0 0 _ (F0 m 8 ls [])) _ 0 r ls _ _ hz (Nat.zero_add _) hS rfl hl
  intro d
  induction d using Nat.strongRecOn with
  | _ d ih =>
    intro k rk ls H locs hz hd hT hth hl
    have hIT := hs_slk_I hI (k := k) (by omega)
    by_cases hkR : k < (hs_R S).length
    · rw [hs_nx_s hkR] at hl
      have hl : lv_has ls 3 [(0, .ref (q 0)), (1, .int (nI (hs_gb (hs_slk S k) k))), (2, .int (nI (hg_at (hs_R S) k)))] := hl
      have hat := hI.J.at hkR
      have hbb : hs_b (hs_slk S k) (hg_at (hs_R S) k) ≤ 1024 := hIT.b2 hat.1 hat.2
      have hgb : hs_gb (hs_slk S k) k ≤ hs_b (hs_slk S k) (hg_at (hs_R S) k) := hg_lo hIT.1 hkR
      have hst := hs_slk_s hI hkR
      refine lv_iload_n C0.1.1 C0.1.2.1 dX1_slideAll_8 rfl (lv_at hl 2 rfl) ?_
      refine lv_if_lt (tgt := 75) C0.1.1 C0.1.2.1 dX1_slideAll_9 (by decide) (fun c1 => ?_) (fun c1 => ?_)
      · rw [n0_lt (by omega)] at c1
        exact c1.elim
      · rw [n0_lt (by omega)] at c1
        refine lv_aload_n C0.1.1 C0.1.2.1 dX1_slideAll_12 rfl (lv_at hl 0 rfl) ?_
        refine lv_iload_n C0.1.1 C0.1.2.1 dX1_slideAll_13 rfl (lv_at hl 2 rfl) ?_
        refine gs_callVi (w := yw G q) (wr := []) C0.1 (m_isMovable l G q rk (hs_slk S k) hT hIT (hg_at (hs_R S) k) hat.1) (cwV 1 C0.1.2.2.2.2 gX1_slideAll_X1_isMovable rfl rfl rfl (by decide +kernel) ⟨Nat.le_of_ble_eq_true rfl, Nat.le_of_ble_eq_true rfl⟩) (ci := 1) rfl rfl rfl (gs_nil hz) rfl hl.1 rfl (Nat.le_of_ble_eq_true rfl) dX1_slideAll_14 ⟨Nat.le_of_ble_eq_true rfl, Nat.le_of_ble_eq_true rfl⟩ (fun res u9 H locs hp9 hz => ?_)
        replace hz := gs_unnil hz
        rw [hp9.1] at hz
        refine gs_eq (y := bI (decide (hs_u S (hg_at (hs_R S) k) = 2 ∧ hs_mv S (hg_at (hs_R S) k) = true))) (hp9.2) ?_
        clear hp9
        refine lv_if_eq (tgt := 52) C0.1.1 C0.1.2.1 dX1_slideAll_17 (by decide) (fun c2 => ?_) (fun c2 => ?_)
        · skip
          rw [bI_d0] at c2
          rw [if_neg (fun z => c2 ⟨hat.2, z⟩)] at hst
          have hT' : ry (hs_slk S (k + 1)) rk := by rw [hst]; exact hT
          have hth' := hth
          have hIT' := hs_slk_I hI (k := k + 1) (by omega)
          have hIk : hs_b (hs_slk S (k + 1)) (hg_at (hs_R S) k) + hs_n S (hg_at (hs_R S) k) = hs_gb (hs_slk S (k + 1)) (k + 1) := rfl
          refine lv_aload_n C0.1.1 C0.1.2.1 dX1_slideAll_52 rfl (lv_at hl 0 rfl) ?_
          refine yg_bg C0 hin hz l_bg dX1_slideAll_53 ?_
          refine lv_iload_n C0.1.1 C0.1.2.1 dX1_slideAll_56 rfl (lv_at hl 2 rfl) ?_
          refine yl_bg C0 hz (hg_at (hs_R S) k) (hat.1) rfl dX1_slideAll_57 ?_
          refine gs_eq (y := nI (hs_b (hs_slk S (k + 1)) (hg_at (hs_R S) k))) ((hT'.2.2.1 _ hat.1 hat.2).1) ?_
          refine lv_aload_n C0.1.1 C0.1.2.1 dX1_slideAll_58 rfl (lv_at hl 0 rfl) ?_
          refine yg_sz C0 hin hz l_sz dX1_slideAll_59 ?_
          refine lv_iload_n C0.1.1 C0.1.2.1 dX1_slideAll_62 rfl (lv_at hl 2 rfl) ?_
          refine yl_sz C0 hz (hg_at (hs_R S) k) (hat.1) rfl dX1_slideAll_63 ?_
          refine gs_eq (y := nI (hs_n S (hg_at (hs_R S) k))) (hT'.2.1 _ hat.1) ?_
          refine lv_iadd C0.1.1 C0.1.2.1 dX1_slideAll_64 ?_
          refine gs_eq (nI_add (hs_b (hs_slk S (k + 1)) (hg_at (hs_R S) k)) (hs_n S (hg_at (hs_R S) k))) ?_
          refine lv_istore_n (lv' := [(1, .int (nI ((hs_b (hs_slk S (k + 1)) (hg_at (hs_R S) k)) + (hs_n S (hg_at (hs_R S) k))))), (0, .ref (q 0)), (2, .int (nI (hg_at (hs_R S) k)))]) C0.1.1 C0.1.2.1 dX1_slideAll_65 rfl hl (by decide) rfl (fun ls hl => ?_)
          refine lv_aload_n C0.1.1 C0.1.2.1 dX1_slideAll_66 rfl (lv_at hl 1 rfl) ?_
          refine lv_iload_n C0.1.1 C0.1.2.1 dX1_slideAll_67 rfl (lv_at hl 0 rfl) ?_
          refine gs_callVi (w := yw G q) (wr := []) C0.1 (m_firstFrom l G q rk (hs_slk S (k + 1)) hT' hIT' (hs_gb (hs_slk S (k + 1)) (k + 1)) (k + 1) (hs_nk_gb hIT' (by show k + 1 ≤ (hs_R S).length; omega))) (cwV 1 C0.1.2.2.2.2 gX1_slideAll_X1_firstFrom rfl rfl rfl (by decide +kernel) ⟨Nat.le_of_ble_eq_true rfl, Nat.le_of_ble_eq_true rfl⟩) (ci := 1) rfl rfl rfl (gs_nil hz) rfl hl.1 rfl (Nat.le_of_ble_eq_true rfl) dX1_slideAll_68 ⟨Nat.le_of_ble_eq_true rfl, Nat.le_of_ble_eq_true rfl⟩ (fun res u9 H locs hp9 hz => ?_)
          replace hz := gs_unnil hz
          rw [hp9.1] at hz
          refine gs_eq (y := oi (hs_nx S (k + 1))) (hp9.2) ?_
          clear hp9
          refine lv_istore_n (lv' := [(2, .int (oi (hs_nx S (k + 1)))), (1, .int (nI ((hs_b (hs_slk S (k + 1)) (hg_at (hs_R S) k)) + (hs_n S (hg_at (hs_R S) k))))), (0, .ref (q 0))]) C0.1.1 C0.1.2.1 dX1_slideAll_71 rfl hl (by decide) rfl (fun ls hl => ?_)
          refine lv_goto (tgt := 8) C0.1.1 C0.1.2.1 dX1_slideAll_72 (by decide) ?_
          have hl : lv_has ls 3 [(0, .ref (q 0)), (1, .int (nI ((hs_b (hs_slk S (k + 1)) (hg_at (hs_R S) k)) + (hs_n S (hg_at (hs_R S) k))))), (2, .int (oi (hs_nx S (k + 1))))] := lv_sub hl [2, 1, 0] rfl
          exact ih (d - 1) (by omega) (k + 1) rk ls _ _ hz (by omega) hT' hth' hl
        · skip
          rw [bI_dn] at c2
          rw [if_pos c2.2] at hst
          refine lv_aload_n C0.1.1 C0.1.2.1 dX1_slideAll_20 rfl (lv_at hl 0 rfl) ?_
          refine yg_bg C0 hin hz l_bg dX1_slideAll_21 ?_
          refine lv_iload_n C0.1.1 C0.1.2.1 dX1_slideAll_24 rfl (lv_at hl 2 rfl) ?_
          refine yl_bg C0 hz (hg_at (hs_R S) k) (hat.1) rfl dX1_slideAll_25 ?_
          refine gs_eq (y := nI (hs_b (hs_slk S k) (hg_at (hs_R S) k))) ((hT.2.2.1 _ hat.1 hat.2).1) ?_
          refine lv_iload_n C0.1.1 C0.1.2.1 dX1_slideAll_26 rfl (lv_at hl 1 rfl) ?_
          refine lv_icmp_le (tgt := 52) C0.1.1 C0.1.2.1 dX1_slideAll_27 (by decide) (fun c3 => ?_) (fun c3 => ?_)
          · rw [nI_leI (by omega) (by omega)] at c3
            have hT' : ry (hs_slk S (k + 1)) rk := by rw [hst]; exact ry_go0 hT (by omega)
            have hth' := hth
            have hIT' := hs_slk_I hI (k := k + 1) (by omega)
            have hIk : hs_b (hs_slk S (k + 1)) (hg_at (hs_R S) k) + hs_n S (hg_at (hs_R S) k) = hs_gb (hs_slk S (k + 1)) (k + 1) := rfl
            refine lv_aload_n C0.1.1 C0.1.2.1 dX1_slideAll_52 rfl (lv_at hl 0 rfl) ?_
            refine yg_bg C0 hin hz l_bg dX1_slideAll_53 ?_
            refine lv_iload_n C0.1.1 C0.1.2.1 dX1_slideAll_56 rfl (lv_at hl 2 rfl) ?_
            refine yl_bg C0 hz (hg_at (hs_R S) k) (hat.1) rfl dX1_slideAll_57 ?_
            refine gs_eq (y := nI (hs_b (hs_slk S (k + 1)) (hg_at (hs_R S) k))) ((hT'.2.2.1 _ hat.1 hat.2).1) ?_
            refine lv_aload_n C0.1.1 C0.1.2.1 dX1_slideAll_58 rfl (lv_at hl 0 rfl) ?_
            refine yg_sz C0 hin hz l_sz dX1_slideAll_59 ?_
            refine lv_iload_n C0.1.1 C0.1.2.1 dX1_slideAll_62 rfl (lv_at hl 2 rfl) ?_
            refine yl_sz C0 hz (hg_at (hs_R S) k) (hat.1) rfl dX1_slideAll_63 ?_
            refine gs_eq (y := nI (hs_n S (hg_at (hs_R S) k))) (hT'.2.1 _ hat.1) ?_
            refine lv_iadd C0.1.1 C0.1.2.1 dX1_slideAll_64 ?_
            refine gs_eq (nI_add (hs_b (hs_slk S (k + 1)) (hg_at (hs_R S) k)) (hs_n S (hg_at (hs_R S) k))) ?_
            refine lv_istore_n (lv' := [(1, .int (nI ((hs_b (hs_slk S (k + 1)) (hg_at (hs_R S) k)) + (hs_n S (hg_at (hs_R S) k))))), (0, .ref (q 0)), (2, .int (nI (hg_at (hs_R S) k)))]) C0.1.1 C0.1.2.1 dX1_slideAll_65 rfl hl (by decide) rfl (fun ls hl => ?_)
            refine lv_aload_n C0.1.1 C0.1.2.1 dX1_slideAll_66 rfl (lv_at hl 1 rfl) ?_
            refine lv_iload_n C0.1.1 C0.1.2.1 dX1_slideAll_67 rfl (lv_at hl 0 rfl) ?_
            refine gs_callVi (w := yw G q) (wr := []) C0.1 (m_firstFrom l G q rk (hs_slk S (k + 1)) hT' hIT' (hs_gb (hs_slk S (k + 1)) (k + 1)) (k + 1) (hs_nk_gb hIT' (by show k + 1 ≤ (hs_R S).length; omega))) (cwV 1 C0.1.2.2.2.2 gX1_slideAll_X1_firstFrom rfl rfl rfl (by decide +kernel) ⟨Nat.le_of_ble_eq_true rfl, Nat.le_of_ble_eq_true rfl⟩) (ci := 1) rfl rfl rfl (gs_nil hz) rfl hl.1 rfl (Nat.le_of_ble_eq_true rfl) dX1_slideAll_68 ⟨Nat.le_of_ble_eq_true rfl, Nat.le_of_ble_eq_true rfl⟩ (fun res u9 H locs hp9 hz => ?_)
            replace hz := gs_unnil hz
            rw [hp9.1] at hz
            refine gs_eq (y := oi (hs_nx S (k + 1))) (hp9.2) ?_
            clear hp9
            refine lv_istore_n (lv' := [(2, .int (oi (hs_nx S (k + 1)))), (1, .int (nI ((hs_b (hs_slk S (k + 1)) (hg_at (hs_R S) k)) + (hs_n S (hg_at (hs_R S) k))))), (0, .ref (q 0))]) C0.1.1 C0.1.2.1 dX1_slideAll_71 rfl hl (by decide) rfl (fun ls hl => ?_)
            refine lv_goto (tgt := 8) C0.1.1 C0.1.2.1 dX1_slideAll_72 (by decide) ?_
            have hl : lv_has ls 3 [(0, .ref (q 0)), (1, .int (nI ((hs_b (hs_slk S (k + 1)) (hg_at (hs_R S) k)) + (hs_n S (hg_at (hs_R S) k))))), (2, .int (oi (hs_nx S (k + 1))))] := lv_sub hl [2, 1, 0] rfl
            exact ih (d - 1) (by omega) (k + 1) rk ls _ _ hz (by omega) hT' hth' hl
          · rw [nI_leI (by omega) (by omega)] at c3
            refine lv_aload_n C0.1.1 C0.1.2.1 dX1_slideAll_30 rfl (lv_at hl 0 rfl) ?_
            refine yg_bg C0 hin hz l_bg dX1_slideAll_31 ?_
            refine lv_iload_n C0.1.1 C0.1.2.1 dX1_slideAll_34 rfl (lv_at hl 2 rfl) ?_
            refine lv_iload_n C0.1.1 C0.1.2.1 dX1_slideAll_35 rfl (lv_at hl 1 rfl) ?_
            refine yt_bg C0 hz (hg_at (hs_R S) k) (hat.1) rfl dX1_slideAll_36 (fun H locs hz => ?_)
            refine lv_aload_n C0.1.1 C0.1.2.1 dX1_slideAll_37 rfl (lv_at hl 0 rfl) ?_
            refine lv_aload_n C0.1.1 C0.1.2.1 dX1_slideAll_38 rfl (lv_at hl 0 rfl) ?_
            refine yg_mv C0 hin hz l_mv dX1_slideAll_39 ?_
            refine lv_aload_n C0.1.1 C0.1.2.1 dX1_slideAll_42 rfl (lv_at hl 0 rfl) ?_
            refine yg_sz C0 hin hz l_sz dX1_slideAll_43 ?_
            refine lv_iload_n C0.1.1 C0.1.2.1 dX1_slideAll_46 rfl (lv_at hl 2 rfl) ?_
            refine yl_sz C0 hz (hg_at (hs_R S) k) (hat.1) rfl dX1_slideAll_47 ?_
            refine gs_eq (y := nI (hs_n S (hg_at (hs_R S) k))) (hT.2.1 _ hat.1) ?_
            refine lv_iadd C0.1.1 C0.1.2.1 dX1_slideAll_48 ?_
            refine yp_mv C0 hin hz l_mv dX1_slideAll_49 (fun H locs hz => ?_)
            obtain ⟨r2, er2⟩ : ∃ z, z = ys_mv (ys_bg rk (upd (y_bg rk) (hg_at (hs_R S) k) (nI (hs_gb (hs_slk S k) k)))) (y_mv rk + nI (hs_n S (hg_at (hs_R S) k))) := ⟨_, rfl⟩
            have hz : gs_Z G (yw G q r2) (va_A (yw G q r) s.heap.size) s H locs := by rw [er2]; exact hz
            have hT' : ry (hs_slk S (k + 1)) r2 := by rw [hst, er2]; exact ry_go1 hT (by omega)
            have hth' : y_th r2 = y_th r := by rw [er2]; exact hth
            have hIT' := hs_slk_I hI (k := k + 1) (by omega)
            have hIk : hs_b (hs_slk S (k + 1)) (hg_at (hs_R S) k) + hs_n S (hg_at (hs_R S) k) = hs_gb (hs_slk S (k + 1)) (k + 1) := rfl
            refine lv_aload_n C0.1.1 C0.1.2.1 dX1_slideAll_52 rfl (lv_at hl 0 rfl) ?_
            refine yg_bg C0 hin hz l_bg dX1_slideAll_53 ?_
            refine lv_iload_n C0.1.1 C0.1.2.1 dX1_slideAll_56 rfl (lv_at hl 2 rfl) ?_
            refine yl_bg C0 hz (hg_at (hs_R S) k) (hat.1) rfl dX1_slideAll_57 ?_
            refine gs_eq (y := nI (hs_b (hs_slk S (k + 1)) (hg_at (hs_R S) k))) ((hT'.2.2.1 _ hat.1 hat.2).1) ?_
            refine lv_aload_n C0.1.1 C0.1.2.1 dX1_slideAll_58 rfl (lv_at hl 0 rfl) ?_
            refine yg_sz C0 hin hz l_sz dX1_slideAll_59 ?_
            refine lv_iload_n C0.1.1 C0.1.2.1 dX1_slideAll_62 rfl (lv_at hl 2 rfl) ?_
            refine yl_sz C0 hz (hg_at (hs_R S) k) (hat.1) rfl dX1_slideAll_63 ?_
            refine gs_eq (y := nI (hs_n S (hg_at (hs_R S) k))) (hT'.2.1 _ hat.1) ?_
            refine lv_iadd C0.1.1 C0.1.2.1 dX1_slideAll_64 ?_
            refine gs_eq (nI_add (hs_b (hs_slk S (k + 1)) (hg_at (hs_R S) k)) (hs_n S (hg_at (hs_R S) k))) ?_
            refine lv_istore_n (lv' := [(1, .int (nI ((hs_b (hs_slk S (k + 1)) (hg_at (hs_R S) k)) + (hs_n S (hg_at (hs_R S) k))))), (0, .ref (q 0)), (2, .int (nI (hg_at (hs_R S) k)))]) C0.1.1 C0.1.2.1 dX1_slideAll_65 rfl hl (by decide) rfl (fun ls hl => ?_)
            refine lv_aload_n C0.1.1 C0.1.2.1 dX1_slideAll_66 rfl (lv_at hl 1 rfl) ?_
            refine lv_iload_n C0.1.1 C0.1.2.1 dX1_slideAll_67 rfl (lv_at hl 0 rfl) ?_
            refine gs_callVi (w := yw G q) (wr := []) C0.1 (m_firstFrom l G q r2 (hs_slk S (k + 1)) hT' hIT' (hs_gb (hs_slk S (k + 1)) (k + 1)) (k + 1) (hs_nk_gb hIT' (by show k + 1 ≤ (hs_R S).length; omega))) (cwV 1 C0.1.2.2.2.2 gX1_slideAll_X1_firstFrom rfl rfl rfl (by decide +kernel) ⟨Nat.le_of_ble_eq_true rfl, Nat.le_of_ble_eq_true rfl⟩) (ci := 1) rfl rfl rfl (gs_nil hz) rfl hl.1 rfl (Nat.le_of_ble_eq_true rfl) dX1_slideAll_68 ⟨Nat.le_of_ble_eq_true rfl, Nat.le_of_ble_eq_true rfl⟩ (fun res u9 H locs hp9 hz => ?_)
            replace hz := gs_unnil hz
            rw [hp9.1] at hz
            refine gs_eq (y := oi (hs_nx S (k + 1))) (hp9.2) ?_
            clear hp9
            refine lv_istore_n (lv' := [(2, .int (oi (hs_nx S (k + 1)))), (1, .int (nI ((hs_b (hs_slk S (k + 1)) (hg_at (hs_R S) k)) + (hs_n S (hg_at (hs_R S) k))))), (0, .ref (q 0))]) C0.1.1 C0.1.2.1 dX1_slideAll_71 rfl hl (by decide) rfl (fun ls hl => ?_)
            refine lv_goto (tgt := 8) C0.1.1 C0.1.2.1 dX1_slideAll_72 (by decide) ?_
            have hl : lv_has ls 3 [(0, .ref (q 0)), (1, .int (nI ((hs_b (hs_slk S (k + 1)) (hg_at (hs_R S) k)) + (hs_n S (hg_at (hs_R S) k))))), (2, .int (oi (hs_nx S (k + 1))))] := lv_sub hl [2, 1, 0] rfl
            exact ih (d - 1) (by omega) (k + 1) r2 ls _ _ hz (by omega) hT' hth' hl
    · obtain rfl : k = (hs_R S).length := by omega
      rw [hs_nx_n hkR] at hl
      have hl : lv_has ls 3 [(0, .ref (q 0)), (1, .int (nI (hs_gb (hs_slk S (hs_R S).length) (hs_R S).length))), (2, .int (-1))] := hl
      refine lv_iload_n C0.1.1 C0.1.2.1 dX1_slideAll_8 rfl (lv_at hl 2 rfl) ?_
      refine lv_if_lt (tgt := 75) C0.1.1 C0.1.2.1 dX1_slideAll_9 (by decide) (fun c1 => ?_) (fun c1 => ?_)
      · skip
        exact gs_retv rk C0 hz (⟨hT, hth⟩) (Nat.le_of_ble_eq_true rfl) (Nat.le_of_ble_eq_true rfl) dX1_slideAll_75
      · skip
        exact absurd (by decide) c1
set_option maxHeartbeats 4000000 in
set_option maxRecDepth 100000 in
/-- loseOne -/
theorem m_loseOne (l : Launch) (G : gs_G) (q : Nat → Nat) (r : yr) (S : hs_S) (hS : ry S r) (h : Nat) (hh : h < 48) (hu2 : hs_u S h = 2) : gm_v l yX1_loseOne wsX1_loseOne (gm_rm 1 0 0) G (yw G q) r [.ref (q 0), .int (nI h)] (fun u => ry (hs_gu S h) u ∧ y_th u = y_th r) 0 0 := by
  refine gm_v.of (cc := cX1_loseOne) (nL := 2) (ret := none) (by decide +kernel) rfl (Nat.le_of_ble_eq_true rfl) ?_
  intro p e s m args below meth c ls C0 hz hl
  have hin : ∀ w ∈ wsX10, w ∈ wsX1_loseOne := by decide +kernel
  have l_sz : Cond.fieldLink RX1 17 "HandleHeapModel" "size" "[I" ∈ wsX1_loseOne := by decide +kernel
  have l_lo : Cond.fieldLink RX1 54 "HandleHeapModel" "lost" "I" ∈ wsX1_loseOne := by decide +kernel
  have hl : lv_has ls 2 [(0, .ref (q 0)), (1, .int (nI h))] := hl
  refine lv_aload_n C0.1.1 C0.1.2.1 dX1_loseOne_0 rfl (lv_at hl 0 rfl) ?_
  refine yg_sz C0 hin hz l_sz dX1_loseOne_1 ?_
  refine lv_iload_n C0.1.1 C0.1.2.1 dX1_loseOne_4 rfl (lv_at hl 1 rfl) ?_
  refine lv_iconst (v := nI 0) C0.1.1 C0.1.2.1 dX1_loseOne_5 (by decide) ?_
  refine yt_sz C0 hz h (by omega) rfl dX1_loseOne_6 (fun H locs hz => ?_)
  refine lv_aload_n C0.1.1 C0.1.2.1 dX1_loseOne_7 rfl (lv_at hl 0 rfl) ?_
  refine lv_dup C0.1.1 C0.1.2.1 dX1_loseOne_8 rfl ?_
  refine yg_lo C0 hin hz l_lo dX1_loseOne_9 ?_
  refine lv_iconst (v := nI 1) C0.1.1 C0.1.2.1 dX1_loseOne_12 (by decide) ?_
  refine lv_iadd C0.1.1 C0.1.2.1 dX1_loseOne_13 ?_
  refine yp_lo C0 hin hz l_lo dX1_loseOne_14 (fun H locs hz => ?_)
  exact gs_retv (ys_lo (ys_sz r (upd (y_sz r) h (nI 0))) ((y_lo (ys_sz r (upd (y_sz r) h (nI 0)))) + (nI 1))) C0 hz (⟨ry_gu hS hh hu2, rfl⟩) (Nat.le_of_ble_eq_true rfl) (Nat.le_of_ble_eq_true rfl) dX1_loseOne_17
set_option maxHeartbeats 4000000 in
set_option maxRecDepth 100000 in
/-- room -/
theorem m_room (l : Launch) (G : gs_G) (q : Nat → Nat) (r : yr) (S : hs_S) (hS : ry S r) (hI : hs_I S) (n : Nat) (hn1 : 1 ≤ n) (hn : n ≤ 1024) (but : Nat) (sp : Int32) (hsp : (but < 48 ∧ sp = nI but) ∨ (but = 48 ∧ sp = -1)) : gm_i l yX1_room wsX1_room (gm_rm 5 0 0) G (yw G q) r [.ref (q 0), .int (nI n), .int sp] (fun res u => (ry (hs_room S n but).1 u ∧ res = oi ((hs_room S n but).2.map (hs_gb (hs_room S n but).1))) ∧ y_th u = y_th r) 0 0 := by
  refine gm_i.of (cc := cX1_room) (nL := 5) (ret := (some .int)) (by decide +kernel) rfl (Nat.le_of_ble_eq_true rfl) ?_
  intro p e s m args below meth c ls C0 hz hl
  have hl : lv_has ls 5 [(0, .ref (q 0)), (1, .int (nI n)), (2, .int sp)] := hl
  refine lv_aload_n C0.1.1 C0.1.2.1 dX1_room_0 rfl (lv_at hl 0 rfl) ?_
  refine lv_iload_n C0.1.1 C0.1.2.1 dX1_room_1 rfl (lv_at hl 1 rfl) ?_
  rcases op_cases (hs_pk S n) with ⟨k0, hk0⟩ | hk0
  · skip
    have hok := hs_pk_ok hk0
    have hgb : hs_gb S k0 ≤ 1024 := hg_gble hI.1 hok.1
    refine gs_callVi (w := yw G q) (wr := []) C0.1 (m_place l G q r S hS hI n hn1 hn) (cwV 1 C0.1.2.2.2.2 gX1_room_X1_place rfl rfl rfl (by decide +kernel) ⟨Nat.le_of_ble_eq_true rfl, Nat.le_of_ble_eq_true rfl⟩) (ci := 1) rfl rfl rfl (gs_nil hz) rfl hl.1 rfl (Nat.le_of_ble_eq_true rfl) dX1_room_2 ⟨Nat.le_of_ble_eq_true rfl, Nat.le_of_ble_eq_true rfl⟩ (fun res u9 H locs hp9 hz => ?_)
    replace hz := gs_unnil hz
    rw [hp9.1] at hz
    refine gs_eq (y := nI (hs_gb S k0)) (by rw [hp9.2, hk0]; rfl) ?_
    clear hp9
    refine lv_istore_n (lv' := [(3, .int (nI (hs_gb S k0))), (0, .ref (q 0)), (1, .int (nI n)), (2, .int sp)]) C0.1.1 C0.1.2.1 dX1_room_5 rfl hl (by decide) rfl (fun ls hl => ?_)
    refine lv_iload_n C0.1.1 C0.1.2.1 dX1_room_6 rfl (lv_at hl 0 rfl) ?_
    refine lv_if_lt (tgt := 12) C0.1.1 C0.1.2.1 dX1_room_7 (by decide) (fun c1 => ?_) (fun c1 => ?_)
    · rw [n0_lt (by omega)] at c1
      exact c1.elim
    · rw [n0_lt (by omega)] at c1
      refine lv_iload_n C0.1.1 C0.1.2.1 dX1_room_10 rfl (lv_at hl 0 rfl) ?_
      exact gs_reti r C0 hz (⟨by rw [hs_room_s hk0]; exact ⟨hS, rfl⟩, rfl⟩) (Nat.le_of_ble_eq_true rfl) (Nat.le_of_ble_eq_true rfl) dX1_room_11
  · skip
    refine gs_callVi (w := yw G q) (wr := []) C0.1 (m_place l G q r S hS hI n hn1 hn) (cwV 1 C0.1.2.2.2.2 gX1_room_X1_place rfl rfl rfl (by decide +kernel) ⟨Nat.le_of_ble_eq_true rfl, Nat.le_of_ble_eq_true rfl⟩) (ci := 1) rfl rfl rfl (gs_nil hz) rfl hl.1 rfl (Nat.le_of_ble_eq_true rfl) dX1_room_2 ⟨Nat.le_of_ble_eq_true rfl, Nat.le_of_ble_eq_true rfl⟩ (fun res u9 H locs hp9 hz => ?_)
    replace hz := gs_unnil hz
    rw [hp9.1] at hz
    refine gs_eq (y := (-1)) (by rw [hp9.2, hk0]; rfl) ?_
    clear hp9
    refine lv_istore_n (lv' := [(3, .int ((-1))), (0, .ref (q 0)), (1, .int (nI n)), (2, .int sp)]) C0.1.1 C0.1.2.1 dX1_room_5 rfl hl (by decide) rfl (fun ls hl => ?_)
    refine lv_iload_n C0.1.1 C0.1.2.1 dX1_room_6 rfl (lv_at hl 0 rfl) ?_
    refine lv_if_lt (tgt := 12) C0.1.1 C0.1.2.1 dX1_room_7 (by decide) (fun c1 => ?_) (fun c1 => ?_)
    · skip
      refine lv_aload_n C0.1.1 C0.1.2.1 dX1_room_12 rfl (lv_at hl 1 rfl) ?_
      refine gs_callVv (w := yw G q) (wr := []) C0.1 (m_slideAll l G q r S hS hI) (cwV 0 C0.1.2.2.2.2 gX1_room_X1_slideAll rfl rfl rfl (by decide +kernel) ⟨Nat.le_of_ble_eq_true rfl, Nat.le_of_ble_eq_true rfl⟩) (ci := 1) rfl rfl rfl (gs_nil hz) rfl hl.1 rfl (Nat.le_of_ble_eq_true rfl) dX1_room_13 ⟨Nat.le_of_ble_eq_true rfl, Nat.le_of_ble_eq_true rfl⟩ (fun u H locs hp hz => ?_)
      replace hz := gs_unnil hz
      obtain ⟨hp, hth0⟩ := hp
      have hlen := (hs_sl_I hI).J.len
      refine lv_aload_n C0.1.1 C0.1.2.1 dX1_room_16 rfl (lv_at hl 1 rfl) ?_
      refine lv_iload_n C0.1.1 C0.1.2.1 dX1_room_17 rfl (lv_at hl 2 rfl) ?_
      refine gs_callVi (w := yw G q) (wr := []) C0.1 (m_place l G q u (hs_sl S) hp (hs_sl_I hI) n hn1 hn) (cwV 1 C0.1.2.2.2.2 gX1_room_X1_place rfl rfl rfl (by decide +kernel) ⟨Nat.le_of_ble_eq_true rfl, Nat.le_of_ble_eq_true rfl⟩) (ci := 1) rfl rfl rfl (gs_nil hz) rfl hl.1 rfl (Nat.le_of_ble_eq_true rfl) dX1_room_18 ⟨Nat.le_of_ble_eq_true rfl, Nat.le_of_ble_eq_true rfl⟩ (fun res u9 H locs hp9 hz => ?_)
      replace hz := gs_unnil hz
      rw [hp9.1] at hz
      refine gs_eq (y := oi ((hs_pk (hs_sl S) n).map (hs_gb (hs_sl S)))) (hp9.2) ?_
      clear hp9
      refine lv_istore_n (lv' := [(3, .int (oi ((hs_pk (hs_sl S) n).map (hs_gb (hs_sl S))))), (0, .ref (q 0)), (1, .int (nI n)), (2, .int sp)]) C0.1.1 C0.1.2.1 dX1_room_21 rfl hl (by decide) rfl (fun ls hl => ?_)
      have hl : lv_has ls 5 [(0, .ref (q 0)), (1, .int (nI n)), (2, .int sp), (3, .int (oi ((hs_pk (hs_sl S) n).map (hs_gb (hs_sl S)))))] := lv_sub hl [1, 2, 3, 0] rfl
      refine (?loop : ∀ (d : Nat) (T : hs_S) (rk : yr) (ls : Array Slot) (H : Heap) (locs : List Loc), gs_Z G (yw G q rk) _ s H locs → (hs_R T).length ≤ d → ry T rk → y_th rk = y_th r → hs_I T → hs_room S n but = hs_rm n but d T → lv_has ls 5 [(0, .ref (q 0)), (1, .int (nI n)), (2, .int sp), (3, .int (oi ((hs_pk T n).map (hs_gb T))))] → W p l e _ s m args below meth c H locs (0 + 0 + 0 + 0) (0 + 0 + 0 + 0) _ (F0 m 22 ls [])) 48 (hs_sl S) u ls _ _ hz hlen hp hth0 (hs_sl_I hI) (hs_room_n hk0) hl
      intro d
      induction d with
      | zero =>
        intro T rk ls H locs hz hd hT hth hIT key hl
        rcases op_cases (hs_pk T n) with ⟨k1, hk1⟩ | hk1
        · rw [hk1] at hl
          have hok := hs_pk_ok hk1
          have hgb : hs_gb T k1 ≤ 1024 := hg_gble hIT.1 hok.1
          have hl : lv_has ls 5 [(0, .ref (q 0)), (1, .int (nI n)), (2, .int sp), (3, .int (nI (hs_gb T k1)))] := hl
          refine lv_iload_n C0.1.1 C0.1.2.1 dX1_room_22 rfl (lv_at hl 3 rfl) ?_
          refine lv_if_ge (tgt := 59) C0.1.1 C0.1.2.1 dX1_room_23 (by decide) (fun c2 => ?_) (fun c2 => ?_)
          · rw [n0_ge (by omega)] at c2
            refine lv_iload_n C0.1.1 C0.1.2.1 dX1_room_59 rfl (lv_at hl 3 rfl) ?_
            exact gs_reti rk C0 hz (⟨by rw [key, hs_rm_s hk1]; exact ⟨hT, rfl⟩, hth⟩) (Nat.le_of_ble_eq_true rfl) (Nat.le_of_ble_eq_true rfl) dX1_room_60
          · rw [n0_ge (by omega)] at c2
            exact absurd trivial c2
        · rw [hk1] at hl
          have hl : lv_has ls 5 [(0, .ref (q 0)), (1, .int (nI n)), (2, .int sp), (3, .int (-1))] := hl
          have e1 : hs_l1 T but = none := by unfold hs_l1; rw [Nat.le_zero.mp hd]; rfl
          refine lv_iload_n C0.1.1 C0.1.2.1 dX1_room_22 rfl (lv_at hl 3 rfl) ?_
          refine lv_if_ge (tgt := 59) C0.1.1 C0.1.2.1 dX1_room_23 (by decide) (fun c2 => ?_) (fun c2 => ?_)
          · skip
            exact absurd c2 (by decide)
          · skip
            refine lv_aload_n C0.1.1 C0.1.2.1 dX1_room_26 rfl (lv_at hl 0 rfl) ?_
            refine lv_iload_n C0.1.1 C0.1.2.1 dX1_room_27 rfl (lv_at hl 2 rfl) ?_
            refine gs_callVi (w := yw G q) (wr := []) C0.1 (m_firstToLose l G q rk T hT hIT but sp hsp) (cwV 1 C0.1.2.2.2.2 gX1_room_X1_firstToLose rfl rfl rfl (by decide +kernel) ⟨Nat.le_of_ble_eq_true rfl, Nat.le_of_ble_eq_true rfl⟩) (ci := 1) rfl rfl rfl (gs_nil hz) rfl hl.1 rfl (Nat.le_of_ble_eq_true rfl) dX1_room_28 ⟨Nat.le_of_ble_eq_true rfl, Nat.le_of_ble_eq_true rfl⟩ (fun res u9 H locs hp9 hz => ?_)
            replace hz := gs_unnil hz
            rw [hp9.1] at hz
            refine gs_eq (y := (-1)) (by rw [hp9.2, e1]; rfl) ?_
            clear hp9
            refine lv_istore (lv' := [(4, .int ((-1))), (0, .ref (q 0)), (1, .int (nI n)), (2, .int sp), (3, .int (-1))]) C0.1.1 C0.1.2.1 dX1_room_31 hl (by decide) rfl (fun ls hl => ?_)
            refine lv_iload C0.1.1 C0.1.2.1 dX1_room_33 (lv_at hl 0 rfl) ?_
            refine lv_if_ge (tgt := 40) C0.1.1 C0.1.2.1 dX1_room_35 (by decide) (fun c3 => ?_) (fun c3 => ?_)
            · skip
              exact absurd c3 (by decide)
            · skip
              refine lv_iconst (v := (-1)) C0.1.1 C0.1.2.1 dX1_room_38 (by decide) ?_
              exact gs_reti rk C0 hz (⟨by rw [key, hs_rm_n hk1 e1]; exact ⟨hT, rfl⟩, hth⟩) (Nat.le_of_ble_eq_true rfl) (Nat.le_of_ble_eq_true rfl) dX1_room_39
      | succ d ih =>
        intro T rk ls H locs hz hd hT hth hIT key hl
        rcases op_cases (hs_pk T n) with ⟨k1, hk1⟩ | hk1
        · rw [hk1] at hl
          have hok := hs_pk_ok hk1
          have hgb : hs_gb T k1 ≤ 1024 := hg_gble hIT.1 hok.1
          have hl : lv_has ls 5 [(0, .ref (q 0)), (1, .int (nI n)), (2, .int sp), (3, .int (nI (hs_gb T k1)))] := hl
          refine lv_iload_n C0.1.1 C0.1.2.1 dX1_room_22 rfl (lv_at hl 3 rfl) ?_
          refine lv_if_ge (tgt := 59) C0.1.1 C0.1.2.1 dX1_room_23 (by decide) (fun c2 => ?_) (fun c2 => ?_)
          · rw [n0_ge (by omega)] at c2
            refine lv_iload_n C0.1.1 C0.1.2.1 dX1_room_59 rfl (lv_at hl 3 rfl) ?_
            exact gs_reti rk C0 hz (⟨by rw [key, hs_rm_s hk1]; exact ⟨hT, rfl⟩, hth⟩) (Nat.le_of_ble_eq_true rfl) (Nat.le_of_ble_eq_true rfl) dX1_room_60
          · rw [n0_ge (by omega)] at c2
            exact absurd trivial c2
        · rw [hk1] at hl
          have hl : lv_has ls 5 [(0, .ref (q 0)), (1, .int (nI n)), (2, .int sp), (3, .int (-1))] := hl
          refine lv_iload_n C0.1.1 C0.1.2.1 dX1_room_22 rfl (lv_at hl 3 rfl) ?_
          refine lv_if_ge (tgt := 59) C0.1.1 C0.1.2.1 dX1_room_23 (by decide) (fun c2 => ?_) (fun c2 => ?_)
          · skip
            exact absurd c2 (by decide)
          · skip
            refine lv_aload_n C0.1.1 C0.1.2.1 dX1_room_26 rfl (lv_at hl 0 rfl) ?_
            refine lv_iload_n C0.1.1 C0.1.2.1 dX1_room_27 rfl (lv_at hl 2 rfl) ?_
            rcases op_cases (hs_l1 T but) with ⟨x, e1⟩ | e1
            · skip
              have hx := hs_l1_ok e1
              have hx2 := hIT.J.2 x hx.1
              have hol := hg_out_lt hx.1
              refine gs_callVi (w := yw G q) (wr := []) C0.1 (m_firstToLose l G q rk T hT hIT but sp hsp) (cwV 1 C0.1.2.2.2.2 gX1_room_X1_firstToLose rfl rfl rfl (by decide +kernel) ⟨Nat.le_of_ble_eq_true rfl, Nat.le_of_ble_eq_true rfl⟩) (ci := 1) rfl rfl rfl (gs_nil hz) rfl hl.1 rfl (Nat.le_of_ble_eq_true rfl) dX1_room_28 ⟨Nat.le_of_ble_eq_true rfl, Nat.le_of_ble_eq_true rfl⟩ (fun res u9 H locs hp9 hz => ?_)
              replace hz := gs_unnil hz
              rw [hp9.1] at hz
              refine gs_eq (y := nI x) (by rw [hp9.2, e1]; rfl) ?_
              clear hp9
              refine lv_istore (lv' := [(4, .int (nI x)), (0, .ref (q 0)), (1, .int (nI n)), (2, .int sp), (3, .int (-1))]) C0.1.1 C0.1.2.1 dX1_room_31 hl (by decide) rfl (fun ls hl => ?_)
              refine lv_iload C0.1.1 C0.1.2.1 dX1_room_33 (lv_at hl 0 rfl) ?_
              refine lv_if_ge (tgt := 40) C0.1.1 C0.1.2.1 dX1_room_35 (by decide) (fun c3 => ?_) (fun c3 => ?_)
              · rw [n0_ge (by omega)] at c3
                refine lv_aload_n C0.1.1 C0.1.2.1 dX1_room_40 rfl (lv_at hl 1 rfl) ?_
                refine lv_iload C0.1.1 C0.1.2.1 dX1_room_41 (lv_at hl 0 rfl) ?_
                refine gs_callVv (w := yw G q) (wr := []) C0.1 (m_loseOne l G q rk T hT x hx2.1 hx2.2) (cwV 1 C0.1.2.2.2.2 gX1_room_X1_loseOne rfl rfl rfl (by decide +kernel) ⟨Nat.le_of_ble_eq_true rfl, Nat.le_of_ble_eq_true rfl⟩) (ci := 1) rfl rfl rfl (gs_nil hz) rfl hl.1 rfl (Nat.le_of_ble_eq_true rfl) dX1_room_43 ⟨Nat.le_of_ble_eq_true rfl, Nat.le_of_ble_eq_true rfl⟩ (fun u2 H locs hp hz => ?_)
                replace hz := gs_unnil hz
                obtain ⟨hp, hth2⟩ := hp
                refine lv_aload_n C0.1.1 C0.1.2.1 dX1_room_46 rfl (lv_at hl 1 rfl) ?_
                refine gs_callVv (w := yw G q) (wr := []) C0.1 (m_slideAll l G q u2 (hs_gu T x) hp (hs_gu_I hIT)) (cwV 0 C0.1.2.2.2.2 gX1_room_X1_slideAll rfl rfl rfl (by decide +kernel) ⟨Nat.le_of_ble_eq_true rfl, Nat.le_of_ble_eq_true rfl⟩) (ci := 1) rfl rfl rfl (gs_nil hz) rfl hl.1 rfl (Nat.le_of_ble_eq_true rfl) dX1_room_47 ⟨Nat.le_of_ble_eq_true rfl, Nat.le_of_ble_eq_true rfl⟩ (fun u3 H locs hp hz => ?_)
                replace hz := gs_unnil hz
                obtain ⟨hp, hth3⟩ := hp
                refine lv_aload_n C0.1.1 C0.1.2.1 dX1_room_50 rfl (lv_at hl 1 rfl) ?_
                refine lv_iload_n C0.1.1 C0.1.2.1 dX1_room_51 rfl (lv_at hl 2 rfl) ?_
                refine gs_callVi (w := yw G q) (wr := []) C0.1 (m_place l G q u3 (hs_sl (hs_gu T x)) hp (hs_sl_I (hs_gu_I hIT)) n hn1 hn) (cwV 1 C0.1.2.2.2.2 gX1_room_X1_place rfl rfl rfl (by decide +kernel) ⟨Nat.le_of_ble_eq_true rfl, Nat.le_of_ble_eq_true rfl⟩) (ci := 1) rfl rfl rfl (gs_nil hz) rfl hl.1 rfl (Nat.le_of_ble_eq_true rfl) dX1_room_52 ⟨Nat.le_of_ble_eq_true rfl, Nat.le_of_ble_eq_true rfl⟩ (fun res u9 H locs hp9 hz => ?_)
                replace hz := gs_unnil hz
                rw [hp9.1] at hz
                refine gs_eq (y := oi ((hs_pk (hs_sl (hs_gu T x)) n).map (hs_gb (hs_sl (hs_gu T x))))) (hp9.2) ?_
                clear hp9
                refine lv_istore_n (lv' := [(3, .int (oi ((hs_pk (hs_sl (hs_gu T x)) n).map (hs_gb (hs_sl (hs_gu T x)))))), (4, .int (nI x)), (0, .ref (q 0)), (1, .int (nI n)), (2, .int sp)]) C0.1.1 C0.1.2.1 dX1_room_55 rfl hl (by decide) rfl (fun ls hl => ?_)
                refine lv_goto (tgt := 22) C0.1.1 C0.1.2.1 dX1_room_56 (by decide) ?_
                have hl : lv_has ls 5 [(0, .ref (q 0)), (1, .int (nI n)), (2, .int sp), (3, .int (oi ((hs_pk (hs_sl (hs_gu T x)) n).map (hs_gb (hs_sl (hs_gu T x))))))] := lv_sub hl [2, 3, 4, 0] rfl
                exact ih _ u3 ls _ _ hz (by show (hg_out (hs_R T) x).length ≤ d; omega) hp (hth3.trans (hth2.trans hth)) (hs_sl_I (hs_gu_I hIT)) (by rw [key, hs_rm_l hk1 e1]) hl
              · rw [n0_ge (by omega)] at c3
                exact absurd trivial c3
            · skip
              refine gs_callVi (w := yw G q) (wr := []) C0.1 (m_firstToLose l G q rk T hT hIT but sp hsp) (cwV 1 C0.1.2.2.2.2 gX1_room_X1_firstToLose rfl rfl rfl (by decide +kernel) ⟨Nat.le_of_ble_eq_true rfl, Nat.le_of_ble_eq_true rfl⟩) (ci := 1) rfl rfl rfl (gs_nil hz) rfl hl.1 rfl (Nat.le_of_ble_eq_true rfl) dX1_room_28 ⟨Nat.le_of_ble_eq_true rfl, Nat.le_of_ble_eq_true rfl⟩ (fun res u9 H locs hp9 hz => ?_)
              replace hz := gs_unnil hz
              rw [hp9.1] at hz
              refine gs_eq (y := (-1)) (by rw [hp9.2, e1]; rfl) ?_
              clear hp9
              refine lv_istore (lv' := [(4, .int ((-1))), (0, .ref (q 0)), (1, .int (nI n)), (2, .int sp), (3, .int (-1))]) C0.1.1 C0.1.2.1 dX1_room_31 hl (by decide) rfl (fun ls hl => ?_)
              refine lv_iload C0.1.1 C0.1.2.1 dX1_room_33 (lv_at hl 0 rfl) ?_
              refine lv_if_ge (tgt := 40) C0.1.1 C0.1.2.1 dX1_room_35 (by decide) (fun c3 => ?_) (fun c3 => ?_)
              · skip
                exact absurd c3 (by decide)
              · skip
                refine lv_iconst (v := (-1)) C0.1.1 C0.1.2.1 dX1_room_38 (by decide) ?_
                exact gs_reti rk C0 hz (⟨by rw [key, hs_rm_n hk1 e1]; exact ⟨hT, rfl⟩, hth⟩) (Nat.le_of_ble_eq_true rfl) (Nat.le_of_ble_eq_true rfl) dX1_room_39
    · skip
      exact absurd (by decide) c1
set_option maxHeartbeats 4000000 in
set_option maxRecDepth 100000 in
/-- noSize -/
theorem m_noSize (l : Launch) (G : gs_G) (q : Nat → Nat) (r : yr) (x : Int32) : gm_i l yX1_noSize wsX1_noSize (gm_rm 1 0 0) G (yw G q) r [.int x] (fun res u => u = r ∧ ((res = nI 0 ∧ ∃ n, 1 ≤ n ∧ n ≤ 1024 ∧ x = nI n) ∨ (res = nI 1 ∧ ¬ ∃ n, 1 ≤ n ∧ n ≤ 1024 ∧ x = nI n))) 0 0 := by
  refine gm_i.of (cc := cX1_noSize) (nL := 1) (ret := (some .boolean)) (by decide +kernel) rfl (Nat.le_of_ble_eq_true rfl) ?_
  intro p e s m args below meth c ls C0 hz hl
  have hl : lv_has ls 1 [(0, .int x)] := hl
  refine lv_iload_n C0.1.1 C0.1.2.1 dX1_noSize_0 rfl (lv_at hl 0 rfl) ?_
  refine lv_iconst (v := nI 1) C0.1.1 C0.1.2.1 dX1_noSize_1 (by decide) ?_
  refine lv_icmp_lt (tgt := 12) C0.1.1 C0.1.2.1 dX1_noSize_2 (by decide) (fun c1 => ?_) (fun c1 => ?_)
  · skip
    refine lv_iconst (v := nI 1) C0.1.1 C0.1.2.1 dX1_noSize_12 (by decide) ?_
    refine lv_goto (tgt := 17) C0.1.1 C0.1.2.1 dX1_noSize_13 (by decide) ?_
    exact gs_retz r C0 hz (by decide) (⟨rfl, Or.inr ⟨rfl, in_lo (by decide) (by decide) c1⟩⟩) (Nat.le_of_ble_eq_true rfl) (Nat.le_of_ble_eq_true rfl) dX1_noSize_17
  · skip
    refine lv_iload_n C0.1.1 C0.1.2.1 dX1_noSize_5 rfl (lv_at hl 0 rfl) ?_
    refine lv_sipush (v := nI 1024) C0.1.1 C0.1.2.1 dX1_noSize_6 (by decide) ?_
    refine lv_icmp_le (tgt := 16) C0.1.1 C0.1.2.1 dX1_noSize_9 (by decide) (fun c2 => ?_) (fun c2 => ?_)
    · skip
      refine lv_iconst (v := nI 0) C0.1.1 C0.1.2.1 dX1_noSize_16 (by decide) ?_
      exact gs_retz r C0 hz (by decide) (⟨rfl, Or.inl ⟨rfl, in_of (by decide) (by decide) c1 c2⟩⟩) (Nat.le_of_ble_eq_true rfl) (Nat.le_of_ble_eq_true rfl) dX1_noSize_17
    · skip
      refine lv_iconst (v := nI 1) C0.1.1 C0.1.2.1 dX1_noSize_12 (by decide) ?_
      refine lv_goto (tgt := 17) C0.1.1 C0.1.2.1 dX1_noSize_13 (by decide) ?_
      exact gs_retz r C0 hz (by decide) (⟨rfl, Or.inr ⟨rfl, in_hi (by decide) c2⟩⟩) (Nat.le_of_ble_eq_true rfl) (Nat.le_of_ble_eq_true rfl) dX1_noSize_17
set_option maxHeartbeats 4000000 in
set_option maxRecDepth 100000 in
/-- notUsed -/
theorem m_notUsed (l : Launch) (G : gs_G) (q : Nat → Nat) (r : yr) (S : hs_S) (hS : ry S r) (x : Int32) : gm_i l yX1_notUsed wsX1_notUsed (gm_rm 1 0 0) G (yw G q) r [.ref (q 0), .int x] (fun res u => u = r ∧ ((res = nI 0 ∧ ∃ h, h < 48 ∧ x = nI h ∧ hs_u S h ≠ 0) ∨ (res = nI 1 ∧ ¬ ∃ h, h < 48 ∧ x = nI h ∧ hs_u S h ≠ 0))) 0 0 := by
  refine gm_i.of (cc := cX1_notUsed) (nL := 2) (ret := (some .boolean)) (by decide +kernel) rfl (Nat.le_of_ble_eq_true rfl) ?_
  intro p e s m args below meth c ls C0 hz hl
  have hin : ∀ w ∈ wsX10, w ∈ wsX1_notUsed := by decide +kernel
  have l_us : Cond.fieldLink RX1 7 "HandleHeapModel" "used" "[Z" ∈ wsX1_notUsed := by decide +kernel
  have hl : lv_has ls 2 [(0, .ref (q 0)), (1, .int x)] := hl
  refine lv_iload_n C0.1.1 C0.1.2.1 dX1_notUsed_0 rfl (lv_at hl 1 rfl) ?_
  refine lv_if_lt (tgt := 19) C0.1.1 C0.1.2.1 dX1_notUsed_1 (by decide) (fun c1 => ?_) (fun c1 => ?_)
  · skip
    refine lv_iconst (v := nI 1) C0.1.1 C0.1.2.1 dX1_notUsed_19 (by decide) ?_
    refine lv_goto (tgt := 24) C0.1.1 C0.1.2.1 dX1_notUsed_20 (by decide) ?_
    exact gs_retz r C0 hz (by decide) (⟨rfl, Or.inr ⟨rfl, fun ⟨k, h2, h3, _⟩ => by rw [h3] at c1; exact nI_pos (by omega) c1⟩⟩) (Nat.le_of_ble_eq_true rfl) (Nat.le_of_ble_eq_true rfl) dX1_notUsed_24
  · skip
    obtain ⟨h, hh0, rfl⟩ := nI_of c1
    refine lv_iload_n C0.1.1 C0.1.2.1 dX1_notUsed_4 rfl (lv_at hl 1 rfl) ?_
    refine lv_bipush (v := nI 48) C0.1.1 C0.1.2.1 dX1_notUsed_5 (by decide) ?_
    refine lv_icmp_ge (tgt := 19) C0.1.1 C0.1.2.1 dX1_notUsed_7 (by decide) (fun c2 => ?_) (fun c2 => ?_)
    · rw [nI_leI (by omega) (by omega)] at c2
      refine lv_iconst (v := nI 1) C0.1.1 C0.1.2.1 dX1_notUsed_19 (by decide) ?_
      refine lv_goto (tgt := 24) C0.1.1 C0.1.2.1 dX1_notUsed_20 (by decide) ?_
      exact gs_retz r C0 hz (by decide) (⟨rfl, Or.inr ⟨rfl, fun ⟨k, h2, h3, _⟩ => by rw [nI_eq hh0 (by omega)] at h3; omega⟩⟩) (Nat.le_of_ble_eq_true rfl) (Nat.le_of_ble_eq_true rfl) dX1_notUsed_24
    · rw [nI_leI (by omega) (by omega)] at c2
      refine lv_aload_n C0.1.1 C0.1.2.1 dX1_notUsed_10 rfl (lv_at hl 0 rfl) ?_
      refine yg_us C0 hin hz l_us dX1_notUsed_11 ?_
      refine lv_iload_n C0.1.1 C0.1.2.1 dX1_notUsed_14 rfl (lv_at hl 1 rfl) ?_
      refine yl_us C0 hz h (by omega) rfl dX1_notUsed_15 ?_
      refine gs_eq (y := bI (decide (hs_u S h ≠ 0))) (hS.1 h (by omega)) ?_
      refine lv_if_ne (tgt := 23) C0.1.1 C0.1.2.1 dX1_notUsed_16 (by decide) (fun c3 => ?_) (fun c3 => ?_)
      · skip
        rw [bI_dn] at c3
        refine lv_iconst (v := nI 0) C0.1.1 C0.1.2.1 dX1_notUsed_23 (by decide) ?_
        exact gs_retz r C0 hz (by decide) (⟨rfl, Or.inl ⟨rfl, h, by omega, rfl, c3⟩⟩) (Nat.le_of_ble_eq_true rfl) (Nat.le_of_ble_eq_true rfl) dX1_notUsed_24
      · skip
        rw [bI_d0] at c3
        refine lv_iconst (v := nI 1) C0.1.1 C0.1.2.1 dX1_notUsed_19 (by decide) ?_
        refine lv_goto (tgt := 24) C0.1.1 C0.1.2.1 dX1_notUsed_20 (by decide) ?_
        exact gs_retz r C0 hz (by decide) (⟨rfl, Or.inr ⟨rfl, fun ⟨k, h2, h3, h4⟩ => by rw [nI_eq hh0 (by omega)] at h3; subst h3; exact c3 h4⟩⟩) (Nat.le_of_ble_eq_true rfl) (Nat.le_of_ble_eq_true rfl) dX1_notUsed_24
set_option maxHeartbeats 4000000 in
set_option maxRecDepth 100000 in
/-- become -/
theorem m_become (l : Launch) (G : gs_G) (q : Nat → Nat) (r : yr) (h a n : Nat) (hh : h < 48) (hn : n ≤ 1024) : gm_v l yX1_become wsX1_become (gm_rm 1 0 0) G (yw G q) r [.ref (q 0), .int (nI h), .int (nI a), .int (nI n)] (fun u => u = ys_by (ys_sz (ys_bg r (upd (y_bg r) h (nI a))) (upd (y_sz r) h (nI n))) (mfl (y_by r) (1024 * h) (1024 * h + n))) 0 0 := by
  refine gm_v.of (cc := cX1_become) (nL := 5) (ret := none) (by decide +kernel) rfl (Nat.le_of_ble_eq_true rfl) ?_
  intro p e s m args below meth c ls C0 hz hl
  have hin : ∀ w ∈ wsX10, w ∈ wsX1_become := by decide +kernel
  have l_bg : Cond.fieldLink RX1 13 "HandleHeapModel" "begin" "[I" ∈ wsX1_become := by decide +kernel
  have l_sz : Cond.fieldLink RX1 17 "HandleHeapModel" "size" "[I" ∈ wsX1_become := by decide +kernel
  have l_by : Cond.fieldLink RX1 30 "HandleHeapModel" "bytes" "[I" ∈ wsX1_become := by decide +kernel
  have hl : lv_has ls 5 [(0, .ref (q 0)), (1, .int (nI h)), (2, .int (nI a)), (3, .int (nI n))] := hl
  refine lv_aload_n C0.1.1 C0.1.2.1 dX1_become_0 rfl (lv_at hl 0 rfl) ?_
  refine yg_bg C0 hin hz l_bg dX1_become_1 ?_
  refine lv_iload_n C0.1.1 C0.1.2.1 dX1_become_4 rfl (lv_at hl 1 rfl) ?_
  refine lv_iload_n C0.1.1 C0.1.2.1 dX1_become_5 rfl (lv_at hl 2 rfl) ?_
  refine yt_bg C0 hz h (by omega) rfl dX1_become_6 (fun H locs hz => ?_)
  refine lv_aload_n C0.1.1 C0.1.2.1 dX1_become_7 rfl (lv_at hl 0 rfl) ?_
  refine yg_sz C0 hin hz l_sz dX1_become_8 ?_
  refine lv_iload_n C0.1.1 C0.1.2.1 dX1_become_11 rfl (lv_at hl 1 rfl) ?_
  refine lv_iload_n C0.1.1 C0.1.2.1 dX1_become_12 rfl (lv_at hl 3 rfl) ?_
  refine yt_sz C0 hz h (by omega) rfl dX1_become_13 (fun H locs hz => ?_)
  refine lv_iconst (v := nI 0) C0.1.1 C0.1.2.1 dX1_become_14 (by decide) ?_
  refine lv_istore (lv' := [(4, .int (nI 0)), (0, .ref (q 0)), (1, .int (nI h)), (2, .int (nI a)), (3, .int (nI n))]) C0.1.1 C0.1.2.1 dX1_become_15 hl (by decide) rfl (fun ls hl => ?_)
  obtain ⟨r2, er2⟩ : ∃ z, z = ys_sz (ys_bg r (upd (y_bg r) h (nI a))) (upd (y_sz r) h (nI n)) := ⟨_, rfl⟩
  have e0 : y_by r = mfl (y_by r) (1024 * h) (1024 * h + 0) := mfl_0
  have hz : gs_Z G (yw G q (ys_by r2 (mfl (y_by r) (1024 * h) (1024 * h + 0)))) (va_A (yw G q r) s.heap.size) s H locs := by rw [← e0, er2]; exact hz
  have hl : lv_has ls 5 [(0, .ref (q 0)), (1, .int (nI h)), (2, .int (nI a)), (3, .int (nI n)), (4, .int (nI 0))] := lv_sub hl [1, 2, 3, 4, 0] rfl
  refine (?loop : ∀ (d k : Nat) (ls : Array Slot) (H : Heap) (locs : List Loc), gs_Z G (yw G q (ys_by r2 (mfl (y_by r) (1024 * h) (1024 * h + k)))) _ s H locs → k + d = n → lv_has ls 5 [(0, .ref (q 0)), (1, .int (nI h)), (2, .int (nI a)), (3, .int (nI n)), (4, .int (nI k))] → W p l e _ s m args below meth c H locs 0 0 _ (F0 m 17 ls [])) n 0 ls _ _ hz (Nat.zero_add _) hl
  intro d
  induction d using Nat.strongRecOn with
  | _ d ih =>
    intro k ls H locs hz hd hl
    refine lv_iload C0.1.1 C0.1.2.1 dX1_become_17 (lv_at hl 4 rfl) ?_
    refine lv_iload_n C0.1.1 C0.1.2.1 dX1_become_19 rfl (lv_at hl 3 rfl) ?_
    refine lv_icmp_ge (tgt := 43) C0.1.1 C0.1.2.1 dX1_become_20 (by decide) (fun c1 => ?_) (fun c1 => ?_)
    · rw [nI_leI (by omega) (by omega)] at c1
      have hkn : k = n := by omega
      exact gs_retv (ys_by r2 (mfl (y_by r) (1024 * h) (1024 * h + k))) C0 hz (by rw [er2, hkn]) (Nat.le_of_ble_eq_true rfl) (Nat.le_of_ble_eq_true rfl) dX1_become_43
    · rw [nI_leI (by omega) (by omega)] at c1
      refine lv_aload_n C0.1.1 C0.1.2.1 dX1_become_23 rfl (lv_at hl 0 rfl) ?_
      refine yg_by C0 hin hz l_by dX1_become_24 ?_
      refine lv_sipush (v := nI 1024) C0.1.1 C0.1.2.1 dX1_become_27 (by decide) ?_
      refine lv_iload_n C0.1.1 C0.1.2.1 dX1_become_30 rfl (lv_at hl 1 rfl) ?_
      refine lv_imul C0.1.1 C0.1.2.1 dX1_become_31 ?_
      refine gs_eq (pk_mul 1024 h) ?_
      refine lv_iload C0.1.1 C0.1.2.1 dX1_become_32 (lv_at hl 4 rfl) ?_
      refine lv_iadd C0.1.1 C0.1.2.1 dX1_become_34 ?_
      refine gs_eq (nI_add (1024 * h) k) ?_
      refine lv_iconst (v := nI 0) C0.1.1 C0.1.2.1 dX1_become_35 (by decide) ?_
      refine yt_by C0 hz ((1024 * h) + k) (by omega) rfl dX1_become_36 (fun H locs hz => ?_)
      have hz : gs_Z G (yw G q (ys_by r2 (mfl (y_by r) (1024 * h) (1024 * h + (k + 1))))) (va_A (yw G q r) s.heap.size) s H locs := by
        rw [← Nat.add_assoc, ← mfl_st (by omega)]; exact hz
      refine lv_iinc (v := nI (k + 1)) (lv' := [(4, .int (nI (k + 1))), (0, .ref (q 0)), (1, .int (nI h)), (2, .int (nI a)), (3, .int (nI n))]) C0.1.1 C0.1.2.1 dX1_become_37 hl (k := 4) rfl (nI_1 k) (by decide) rfl (fun ls hl => ?_)
      refine lv_goto (tgt := 17) C0.1.1 C0.1.2.1 dX1_become_40 (by decide) ?_
      have hl : lv_has ls 5 [(0, .ref (q 0)), (1, .int (nI h)), (2, .int (nI a)), (3, .int (nI n)), (4, .int (nI (k + 1)))] := lv_sub hl [1, 2, 3, 4, 0] rfl
      exact ih (d - 1) (by omega) (k + 1) ls _ _ hz (by omega) hl
