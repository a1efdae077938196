/-! THE REFERENCE: how its cells hold a state; the least block from a byte on; what is lost first -/
def ry (S : hs_S) (r : yr) : Prop :=
  (∀ h, h < 48 → y_us r h = bI (decide (hs_u S h ≠ 0))) ∧ (∀ h, h < 48 → y_sz r h = nI (hs_n S h)) ∧
  (∀ h, h < 48 → hs_u S h = 2 → y_bg r h = nI (hs_b S h) ∧ y_fx r h = bI (hs_f S h) ∧ y_lk r h = bI (hs_l S h) ∧ y_ls r h = bI (hs_o S h)) ∧
  (∀ h, h < 48 → hs_u S h = 2 → ∀ i, i < hs_n S h → y_by r (1024 * h + i) = hs_y S h i) ∧ y_mv r = hs_m S ∧ y_lo r = hs_x S
theorem bI_1 {b : Bool} : bI b = 1 ↔ b = true := by cases b <;> decide
theorem bI_no {p : Prop} [Decidable p] (h : ¬ p) : bI (decide p) = nI 0 := by rw [decide_eq_false h]; rfl
theorem bI_yes {p : Prop} [Decidable p] (h : p) : bI (decide p) = nI 1 := by rw [decide_eq_true h]; rfl
theorem bI_d0 {p : Prop} [Decidable p] : bI (decide p) = 0 ↔ ¬ p := by rw [bI_0, decide_eq_false_iff_not]
theorem bI_dn {p : Prop} [Decidable p] : ¬ bI (decide p) = 0 ↔ p := by rw [bI_d0, Decidable.not_not]
theorem hs_I.n0 {S : hs_S} (hI : hs_I S) {h : Nat} (hh : h < 48) : 0 < hs_n S h ↔ hs_u S h = 2 := by
  constructor
  · intro q
    by_cases z : hs_u S h = 2
    · exact z
    · have := (hI.2.2 h hh z).1; omega
  · intro q
    obtain ⟨k, hk, rfl⟩ := hg_at_of ((hI.2.1 h).mpr ⟨hh, q⟩)
    exact hI.1.2 k hk
theorem hs_I.n1024 {S : hs_S} (hI : hs_I S) {h : Nat} (hh : h < 48) : hs_n S h ≤ 1024 := by
  by_cases z : hs_u S h = 2
  · have := (hI.bn hh z).1; omega
  · have := (hI.2.2 h hh z).1; omega
/-- the least by b among those below h that have P -/
def mb (P : Nat → Prop) (b : Nat → Nat) (h : Nat) (o : Option Nat) : Prop := match o with
  | none => ∀ g, g < h → ¬ P g
  | some x => x < h ∧ P x ∧ ∀ g, g < h → P g → b x ≤ b g
theorem mb_0 {P : Nat → Prop} {b : Nat → Nat} : mb P b 0 none := fun g hg => absurd hg (Nat.not_lt_zero _)
theorem mb_no {P : Nat → Prop} {b : Nat → Nat} {h : Nat} {o : Option Nat} (H : mb P b h o) (hn : ¬ P h) : mb P b (h + 1) o := by
  cases o with
  | none =>
    intro g hg hp
    by_cases e : g = h
    · subst e; exact hn hp
    · exact H g (by omega) hp
  | some x =>
    refine ⟨Nat.lt_succ_of_lt H.1, H.2.1, fun g hg hp => ?_⟩
    by_cases e : g = h
    · subst e; exact absurd hp hn
    · exact H.2.2 g (by omega) hp
theorem mb_ge {P : Nat → Prop} {b : Nat → Nat} {h x : Nat} (H : mb P b h (some x)) (hb : b x ≤ b h) : mb P b (h + 1) (some x) := by
  refine ⟨Nat.lt_succ_of_lt H.1, H.2.1, fun g hg hp => ?_⟩
  by_cases e : g = h
  · subst e; exact hb
  · exact H.2.2 g (by omega) hp
theorem mb_new {P : Nat → Prop} {b : Nat → Nat} {h x : Nat} (H : mb P b h (some x)) (hp : P h) (hb : b h ≤ b x) : mb P b (h + 1) (some h) := by
  refine ⟨Nat.lt_succ_self _, hp, fun g hg hq => ?_⟩
  by_cases e : g = h
  · subst e; exact Nat.le_refl _
  · exact Nat.le_trans hb (H.2.2 g (by omega) hq)
theorem mb_fst {P : Nat → Prop} {b : Nat → Nat} {h : Nat} (H : mb P b h none) (hp : P h) : mb P b (h + 1) (some h) := by
  refine ⟨Nat.lt_succ_self _, hp, fun g hg hq => ?_⟩
  by_cases e : g = h
  · subst e; exact Nat.le_refl _
  · exact absurd hq (H g (by omega))
/-- block k of the row, or none -/
def hs_nx (S : hs_S) (k : Nat) : Option Nat := if k < (hs_R S).length then some (hg_at (hs_R S) k) else none
theorem hs_nx_s {S : hs_S} {k : Nat} (h : k < (hs_R S).length) : hs_nx S k = some (hg_at (hs_R S) k) := if_pos h
theorem hs_nx_n {S : hs_S} {k : Nat} (h : ¬ k < (hs_R S).length) : hs_nx S k = none := if_neg h
theorem mb_nx {S : hs_S} (hI : hs_I S) {a k : Nat} (h1 : ∀ j, j < k → j < (hs_R S).length → hs_b S (hg_at (hs_R S) j) < a) (h2 : k < (hs_R S).length → a ≤ hs_b S (hg_at (hs_R S) k)) {o : Option Nat} (H : mb (fun g => hs_u S g = 2 ∧ a ≤ hs_b S g) (hs_b S) 48 o) : o = hs_nx S k := by
  cases o with
  | none =>
    by_cases q : k < (hs_R S).length
    · have h3 := hI.J.at q
      exact absurd ⟨h3.2, h2 q⟩ (H _ h3.1)
    · exact (hs_nx_n q).symm
  | some x =>
    obtain ⟨g1, ⟨g2, g3⟩, g4⟩ := H
    obtain ⟨j, hj, rfl⟩ := hg_at_of ((hI.2.1 x).mpr ⟨g1, g2⟩)
    have hjk : k ≤ j := by
      by_cases z : j < k
      · have := h1 j z hj; omega
      · omega
    have hk : k < (hs_R S).length := by omega
    have h3 := hI.J.at hk
    have h4 := g4 _ h3.1 ⟨h3.2, h2 hk⟩
    by_cases z : k = j
    · subst z; exact (hs_nx_s hk).symm
    · have h5 := hg_ord hI.1 (i := k) (j := j) (by omega) hj
      have h6 := hI.1.2 k hk
      omega
theorem hs_lf_n {S : hs_S} {but : Nat} : ∀ (d k : Nat), hs_lf S but d k = none → ∀ j, k ≤ j → j < k + d → ¬ (hg_at (hs_R S) j ≠ but ∧ hs_o S (hg_at (hs_R S) j) = true ∧ hs_mv S (hg_at (hs_R S) j) = true) := by
  intro d
  induction d with
  | zero => intro k _ j h1 h2; omega
  | succ d ih =>
    intro k e j h1 h2
    rw [hs_lf] at e
    by_cases q : hg_at (hs_R S) k ≠ but ∧ hs_o S (hg_at (hs_R S) k) = true ∧ hs_mv S (hg_at (hs_R S) k) = true
    · rw [if_pos q] at e; cases e
    · rw [if_neg q] at e
      by_cases z : j = k
      · subst z; exact q
      · exact ih (k + 1) e j (by omega) (by omega)
theorem hs_lf_s {S : hs_S} {but : Nat} : ∀ (d k h : Nat), hs_lf S but d k = some h → ∃ j, k ≤ j ∧ j < k + d ∧ h = hg_at (hs_R S) j ∧ (hg_at (hs_R S) j ≠ but ∧ hs_o S (hg_at (hs_R S) j) = true ∧ hs_mv S (hg_at (hs_R S) j) = true) ∧ ∀ i, k ≤ i → i < j → ¬ (hg_at (hs_R S) i ≠ but ∧ hs_o S (hg_at (hs_R S) i) = true ∧ hs_mv S (hg_at (hs_R S) i) = true) := by
  intro d
  induction d with
  | zero => intro k h e; cases e
  | succ d ih =>
    intro k h e
    rw [hs_lf] at e
    by_cases q : hg_at (hs_R S) k ≠ but ∧ hs_o S (hg_at (hs_R S) k) = true ∧ hs_mv S (hg_at (hs_R S) k) = true
    · rw [if_pos q] at e
      cases e
      exact ⟨k, Nat.le_refl _, by omega, rfl, q, fun i h1 h2 => by omega⟩
    · rw [if_neg q] at e
      obtain ⟨j, g1, g2, g3, g4, g5⟩ := ih (k + 1) h e
      refine ⟨j, by omega, by omega, g3, g4, fun i h1 h2 => ?_⟩
      by_cases z : i = k
      · subst z; exact q
      · exact g5 i (by omega) h2
/-- may be lost, but not for that handle -/
def hs_pl (S : hs_S) (but g : Nat) : Prop := g ≠ but ∧ (hs_u S g = 2 ∧ hs_mv S g = true) ∧ hs_o S g = true
theorem mb_l1 {S : hs_S} (hI : hs_I S) {but : Nat} {o : Option Nat} (H : mb (hs_pl S but) (hs_b S) 48 o) : o = hs_l1 S but := by
  rcases op_cases (hs_l1 S but) with ⟨h, e⟩ | e
  · obtain ⟨j, -, hj, rfl, q, hno⟩ := hs_lf_s _ _ _ e
    have hj : j < (hs_R S).length := by omega
    have h3 := hI.J.at hj
    have hP : hs_pl S but (hg_at (hs_R S) j) := ⟨q.1, ⟨h3.2, q.2.2⟩, q.2.1⟩
    rw [e]
    cases o with
    | none => exact absurd hP (H _ h3.1)
    | some x =>
      obtain ⟨g1, ⟨g2, ⟨g3, g4⟩, g5⟩, g6⟩ := H
      obtain ⟨i, hi, rfl⟩ := hg_at_of ((hI.2.1 x).mpr ⟨g1, g3⟩)
      have h4 := g6 _ h3.1 hP
      by_cases z : i = j
      · rw [z]
      · by_cases z2 : i < j
        · exact absurd ⟨g2, g5, g4⟩ (hno i (Nat.zero_le _) z2)
        · have h5 := hg_ord hI.1 (i := j) (j := i) (by omega) hi
          have h6 := hI.1.2 j hj
          omega
  · have hno := hs_lf_n _ _ e
    rw [e]
    cases o with
    | none => rfl
    | some x =>
      obtain ⟨g1, ⟨g2, ⟨g3, g4⟩, g5⟩, -⟩ := H
      obtain ⟨i, hi, rfl⟩ := hg_at_of ((hI.2.1 x).mpr ⟨g1, g3⟩)
      exact absurd ⟨g2, g5, g4⟩ (hno i (Nat.zero_le _) (by omega))
/-- a byte at which block k is the next -/
def hs_nk (S : hs_S) (a k : Nat) : Prop := a ≤ 1024 ∧ k ≤ (hs_R S).length ∧ (∀ j, j < k → j < (hs_R S).length → hs_b S (hg_at (hs_R S) j) < a) ∧ (k < (hs_R S).length → a ≤ hs_b S (hg_at (hs_R S) k))
theorem hs_nk_gb {S : hs_S} (hI : hs_I S) {k : Nat} (hk : k ≤ (hs_R S).length) : hs_nk S (hs_gb S k) k := by
  refine ⟨hg_gble hI.1 hk, hk, fun j h1 h2 => ?_, fun h => hg_lo hI.1 h⟩
  have h3 := hg_gbge hI.1 h1 hk
  have h4 := hI.1.2 j h2
  unfold hs_gb
  omega
theorem hs_nk_b {S : hs_S} (hI : hs_I S) {k : Nat} (hk : k < (hs_R S).length) : hs_nk S (hs_b S (hg_at (hs_R S) k)) k := by
  have h9 := hg_end hI.1 hk
  refine ⟨by omega, Nat.le_of_lt hk, fun j h1 h2 => ?_, fun h => Nat.le_refl _⟩
  have h3 := hg_ord hI.1 h1 hk
  have h4 := hI.1.2 j h2
  omega
def hs_ge (S : hs_S) (k : Nat) : Nat := hg_ge (hs_R S) (hs_b S) k
theorem hs_gl_e {S : hs_S} {k : Nat} : hs_gl S k = hs_ge S k - hs_gb S k := rfl
/-- where a walk over the gaps stands: before gap k, or at the end -/
def hs_wk (S : hs_S) (k : Nat) : Nat := if k = (hs_R S).length + 1 then 1024 else hs_gb S k
theorem hs_wk_0 {S : hs_S} : hs_wk S 0 = 0 := by unfold hs_wk; rw [if_neg (by omega)]; rfl
theorem hs_wk_k {S : hs_S} {k : Nat} (h : k ≤ (hs_R S).length) : hs_wk S k = hs_gb S k := by unfold hs_wk; rw [if_neg (by omega)]
theorem hs_wk_e {S : hs_S} : hs_wk S ((hs_R S).length + 1) = 1024 := by unfold hs_wk; rw [if_pos rfl]
theorem hs_wk_le {S : hs_S} (hI : hs_I S) {k : Nat} (h : k ≤ (hs_R S).length + 1) : hs_wk S k ≤ 1024 := by
  by_cases q : k = (hs_R S).length + 1
  · rw [q, hs_wk_e]; exact Nat.le_refl _
  · rw [hs_wk_k (by omega)]; exact hg_gble hI.1 (by omega)
/-- the walk's end, early: the last gap is empty -/
theorem hs_wk_end {S : hs_S} (hI : hs_I S) {k : Nat} (h : k ≤ (hs_R S).length) (e : 1024 ≤ hs_gb S k) : k = (hs_R S).length ∧ hs_gl S k = 0 := by
  have h0 : hs_gb S k ≤ 1024 := hg_gble hI.1 h
  by_cases q : k < (hs_R S).length
  · have h1 : hs_gb S k ≤ _ := hg_lo hI.1 q
    have h2 := hg_end hI.1 q
    have h3 := hI.1.2 k q
    omega
  · obtain rfl : k = (hs_R S).length := by omega
    refine ⟨rfl, ?_⟩
    have h4 : hs_ge S (hs_R S).length = 1024 := hg_geL
    rw [hs_gl_e]
    omega
theorem hs_ge_1024 {S : hs_S} (hI : hs_I S) {k : Nat} (h : k ≤ (hs_R S).length) : hs_ge S k = 1024 ↔ k = (hs_R S).length := by
  constructor
  · intro e
    by_cases q : k < (hs_R S).length
    · have h1 : hs_ge S k = _ := hg_gek q
      have h2 := hg_end hI.1 q
      have h3 := hI.1.2 k q
      omega
    · omega
  · intro e
    rw [e]
    exact hg_geL
theorem hs_ge_b {S : hs_S} {k : Nat} (h : k < (hs_R S).length) : hs_ge S k = hs_b S (hg_at (hs_R S) k) := hg_gek h
theorem hs_ge_le {S : hs_S} (hI : hs_I S) {k : Nat} (h : k ≤ (hs_R S).length) : hs_gb S k ≤ hs_ge S k ∧ hs_ge S k ≤ 1024 := ⟨hI.1.1 k h, hg_gele hI.1 h⟩
set_option maxHeartbeats 4000000 in
set_option maxRecDepth 100000 in
/-- has -/
theorem m_has (l : Launch) (G : gs_G) (q : Nat → Nat) (r : yr) (S : hs_S) (hS : ry S r) (hI : hs_I S) (h : Nat) (hh : h < 48) : gm_i l yX1_has wsX1_has (gm_rm 1 0 0) G (yw G q) r [.ref (q 0), .int (nI h)] (fun res u => u = r ∧ res = bI (decide (hs_u S h = 2))) 0 0 := by
  refine gm_i.of (cc := cX1_has) (nL := 2) (ret := (some .boolean)) (by decide +kernel) rfl (Nat.le_of_ble_eq_true rfl) ?_
  intro p e s m args below meth c ls C0 hz hl
  have hin : ∀ w ∈ wsX10, w ∈ wsX1_has := by decide +kernel
  have l_us : Cond.fieldLink RX1 7 "HandleHeapModel" "used" "[Z" ∈ wsX1_has := by decide +kernel
  have l_sz : Cond.fieldLink RX1 17 "HandleHeapModel" "size" "[I" ∈ wsX1_has := by decide +kernel
  have hl : lv_has ls 2 [(0, .ref (q 0)), (1, .int (nI h))] := hl
  have hnle := hI.n1024 hh
  have hn0 := hI.n0 hh
  refine lv_aload_n C0.1.1 C0.1.2.1 dX1_has_0 rfl (lv_at hl 0 rfl) ?_
  refine yg_us C0 hin hz l_us dX1_has_1 ?_
  refine lv_iload_n C0.1.1 C0.1.2.1 dX1_has_4 rfl (lv_at hl 1 rfl) ?_
  refine yl_us C0 hz h (by omega) rfl dX1_has_5 ?_
  refine gs_eq (y := bI (decide (hs_u S h ≠ 0))) (hS.1 h hh) ?_
  refine lv_if_eq (tgt := 22) C0.1.1 C0.1.2.1 dX1_has_6 (by decide) (fun c1 => ?_) (fun c1 => ?_)
  · skip
    rw [bI_d0] at c1
    refine lv_iconst (v := nI 0) C0.1.1 C0.1.2.1 dX1_has_22 (by decide) ?_
    exact gs_retz r C0 hz (by decide) (⟨rfl, (bI_no (fun z => c1 (by omega))).symm⟩) (Nat.le_of_ble_eq_true rfl) (Nat.le_of_ble_eq_true rfl) dX1_has_23
  · skip
    refine lv_aload_n C0.1.1 C0.1.2.1 dX1_has_9 rfl (lv_at hl 0 rfl) ?_
    refine yg_sz C0 hin hz l_sz dX1_has_10 ?_
    refine lv_iload_n C0.1.1 C0.1.2.1 dX1_has_13 rfl (lv_at hl 1 rfl) ?_
    refine yl_sz C0 hz h (by omega) rfl dX1_has_14 ?_
    refine gs_eq (y := nI (hs_n S h)) (hS.2.1 h hh) ?_
    refine lv_if_le (tgt := 22) C0.1.1 C0.1.2.1 dX1_has_15 (by decide) (fun c2 => ?_) (fun c2 => ?_)
    · rw [n0_le (by omega)] at c2
      refine lv_iconst (v := nI 0) C0.1.1 C0.1.2.1 dX1_has_22 (by decide) ?_
      exact gs_retz r C0 hz (by decide) (⟨rfl, (bI_no (fun z => by have := hn0.mpr z; omega)).symm⟩) (Nat.le_of_ble_eq_true rfl) (Nat.le_of_ble_eq_true rfl) dX1_has_23
    · rw [n0_le (by omega)] at c2
      refine lv_iconst (v := nI 1) C0.1.1 C0.1.2.1 dX1_has_18 (by decide) ?_
      refine lv_goto (tgt := 23) C0.1.1 C0.1.2.1 dX1_has_19 (by decide) ?_
      exact gs_retz r C0 hz (by decide) (⟨rfl, (bI_yes (hn0.mp (by omega))).symm⟩) (Nat.le_of_ble_eq_true rfl) (Nat.le_of_ble_eq_true rfl) dX1_has_23
set_option maxHeartbeats 4000000 in
set_option maxRecDepth 100000 in
/-- isMovable -/
theorem m_isMovable (l : Launch) (G : gs_G) (q : Nat → Nat) (r : yr) (S : hs_S) (hS : ry S r) (hI : hs_I S) (h : Nat) (hh : h < 48) : gm_i l yX1_isMovable wsX1_isMovable (gm_rm 2 0 0) G (yw G q) r [.ref (q 0), .int (nI h)] (fun res u => u = r ∧ res = bI (decide (hs_u S h = 2 ∧ hs_mv S h = true))) 0 0 := by
  refine gm_i.of (cc := cX1_isMovable) (nL := 2) (ret := (some .boolean)) (by decide +kernel) rfl (Nat.le_of_ble_eq_true rfl) ?_
  intro p e s m args below meth c ls C0 hz hl
  have hin : ∀ w ∈ wsX10, w ∈ wsX1_isMovable := by decide +kernel
  have l_fx : Cond.fieldLink RX1 20 "HandleHeapModel" "fixed" "[Z" ∈ wsX1_isMovable := by decide +kernel
  have l_lk : Cond.fieldLink RX1 23 "HandleHeapModel" "locked" "[Z" ∈ wsX1_isMovable := by decide +kernel
  have hl : lv_has ls 2 [(0, .ref (q 0)), (1, .int (nI h))] := hl
  refine lv_aload_n C0.1.1 C0.1.2.1 dX1_isMovable_0 rfl (lv_at hl 0 rfl) ?_
  refine lv_iload_n C0.1.1 C0.1.2.1 dX1_isMovable_1 rfl (lv_at hl 1 rfl) ?_
  refine gs_callVi (w := yw G q) (wr := []) C0.1 (m_has l G q r S hS hI h hh) (cwV 1 C0.1.2.2.2.2 gX1_isMovable_X1_has rfl rfl rfl (by decide +kernel) ⟨Nat.le_of_ble_eq_true rfl, Nat.le_of_ble_eq_true rfl⟩) (ci := 1) rfl rfl rfl (gs_nil hz) rfl hl.1 rfl (Nat.le_of_ble_eq_true rfl) dX1_isMovable_2 ⟨Nat.le_of_ble_eq_true rfl, Nat.le_of_ble_eq_true rfl⟩ (fun res u9 H locs hp9 hz => ?_)
  replace hz := gs_unnil hz
  rw [hp9.1] at hz
  refine gs_eq (y := bI (decide (hs_u S h = 2))) (hp9.2) ?_
  clear hp9
  refine lv_if_eq (tgt := 30) C0.1.1 C0.1.2.1 dX1_isMovable_5 (by decide) (fun c1 => ?_) (fun c1 => ?_)
  · skip
    rw [bI_d0] at c1
    refine lv_iconst (v := nI 0) C0.1.1 C0.1.2.1 dX1_isMovable_30 (by decide) ?_
    exact gs_retz r C0 hz (by decide) (⟨rfl, (bI_no (fun z => c1 z.1)).symm⟩) (Nat.le_of_ble_eq_true rfl) (Nat.le_of_ble_eq_true rfl) dX1_isMovable_31
  · skip
    rw [bI_dn] at c1
    have h3 := hS.2.2.1 h hh c1
    refine lv_aload_n C0.1.1 C0.1.2.1 dX1_isMovable_8 rfl (lv_at hl 0 rfl) ?_
    refine yg_fx C0 hin hz l_fx dX1_isMovable_9 ?_
    refine lv_iload_n C0.1.1 C0.1.2.1 dX1_isMovable_12 rfl (lv_at hl 1 rfl) ?_
    refine yl_fx C0 hz h (by omega) rfl dX1_isMovable_13 ?_
    refine gs_eq (y := bI (hs_f S h)) (h3.2.1) ?_
    refine lv_if_ne (tgt := 30) C0.1.1 C0.1.2.1 dX1_isMovable_14 (by decide) (fun c2 => ?_) (fun c2 => ?_)
    · skip
      rw [bI_0, Bool.not_eq_false] at c2
      refine lv_iconst (v := nI 0) C0.1.1 C0.1.2.1 dX1_isMovable_30 (by decide) ?_
      exact gs_retz r C0 hz (by decide) (⟨rfl, (bI_no (fun z => by have z2 := z.2; unfold hs_mv at z2; rw [c2] at z2; cases z2)).symm⟩) (Nat.le_of_ble_eq_true rfl) (Nat.le_of_ble_eq_true rfl) dX1_isMovable_31
    · skip
      rw [bI_0] at c2
      refine lv_aload_n C0.1.1 C0.1.2.1 dX1_isMovable_17 rfl (lv_at hl 0 rfl) ?_
      refine yg_lk C0 hin hz l_lk dX1_isMovable_18 ?_
      refine lv_iload_n C0.1.1 C0.1.2.1 dX1_isMovable_21 rfl (lv_at hl 1 rfl) ?_
      refine yl_lk C0 hz h (by omega) rfl dX1_isMovable_22 ?_
      refine gs_eq (y := bI (hs_l S h)) (h3.2.2.1) ?_
      refine lv_if_ne (tgt := 30) C0.1.1 C0.1.2.1 dX1_isMovable_23 (by decide) (fun c3 => ?_) (fun c3 => ?_)
      · skip
        rw [bI_0, Bool.not_eq_false] at c3
        refine lv_iconst (v := nI 0) C0.1.1 C0.1.2.1 dX1_isMovable_30 (by decide) ?_
        exact gs_retz r C0 hz (by decide) (⟨rfl, (bI_no (fun z => by have z2 := z.2; unfold hs_mv at z2; rw [c2, c3] at z2; cases z2)).symm⟩) (Nat.le_of_ble_eq_true rfl) (Nat.le_of_ble_eq_true rfl) dX1_isMovable_31
      · skip
        rw [bI_0] at c3
        refine lv_iconst (v := nI 1) C0.1.1 C0.1.2.1 dX1_isMovable_26 (by decide) ?_
        refine lv_goto (tgt := 31) C0.1.1 C0.1.2.1 dX1_isMovable_27 (by decide) ?_
        exact gs_retz r C0 hz (by decide) (⟨rfl, (bI_yes ⟨c1, by unfold hs_mv; rw [c2, c3]; rfl⟩).symm⟩) (Nat.le_of_ble_eq_true rfl) (Nat.le_of_ble_eq_true rfl) dX1_isMovable_31
set_option maxHeartbeats 4000000 in
set_option maxRecDepth 100000 in
/-- firstFrom -/
theorem m_firstFrom (l : Launch) (G : gs_G) (q : Nat → Nat) (r : yr) (S : hs_S) (hS : ry S r) (hI : hs_I S) (a k0 : Nat) (hk : hs_nk S a k0) : gm_i l yX1_firstFrom wsX1_firstFrom (gm_rm 2 0 0) G (yw G q) r [.ref (q 0), .int (nI a)] (fun res u => u = r ∧ res = oi (hs_nx S k0)) 0 0 := by
  refine gm_i.of (cc := cX1_firstFrom) (nL := 4) (ret := (some .int)) (by decide +kernel) rfl (Nat.le_of_ble_eq_true rfl) ?_
  intro p e s m args below meth c ls C0 hz hl
  have hin : ∀ w ∈ wsX10, w ∈ wsX1_firstFrom := by decide +kernel
  have l_bg : Cond.fieldLink RX1 13 "HandleHeapModel" "begin" "[I" ∈ wsX1_firstFrom := by decide +kernel
  have hl : lv_has ls 4 [(0, .ref (q 0)), (1, .int (nI a))] := hl
  have ha := hk.1
  refine lv_iconst (v := (-1)) C0.1.1 C0.1.2.1 dX1_firstFrom_0 (by decide) ?_
  refine lv_istore_n (lv' := [(2, .int (-1)), (0, .ref (q 0)), (1, .int (nI a))]) C0.1.1 C0.1.2.1 dX1_firstFrom_1 rfl hl (by decide) rfl (fun ls hl => ?_)
  refine lv_iconst (v := nI 0) C0.1.1 C0.1.2.1 dX1_firstFrom_2 (by decide) ?_
  refine lv_istore_n (lv' := [(3, .int (nI 0)), (2, .int (-1)), (0, .ref (q 0)), (1, .int (nI a))]) C0.1.1 C0.1.2.1 dX1_firstFrom_3 rfl hl (by decide) rfl (fun ls hl => ?_)
  have hl : lv_has ls 4 [(0, .ref (q 0)), (1, .int (nI a)), (2, .int (-1)), (3, .int (nI 0))] := lv_sub hl [2, 3, 1, 0] rfl
  refine (?loop : ∀ (d k : Nat) (o : Option Nat) (ls : Array Slot) (H : Heap) (locs : List Loc), gs_Z G (yw G q r) _ s H locs → k + d = 48 → mb (fun g => hs_u S g = 2 ∧ a ≤ hs_b S g) (hs_b S) k o → lv_has ls 4 [(0, .ref (q 0)), (1, .int (nI a)), (2, .int (oi o)), (3, .int (nI k))] → W p l e _ s m args below meth c H locs 0 0 _ (F0 m 4 ls [])) 48 0 none ls _ _ hz (Nat.zero_add _) mb_0 hl
  intro d
  induction d using Nat.strongRecOn with
  | _ d ih =>
    intro k o ls H locs hz hd hm hl
    refine lv_iload_n C0.1.1 C0.1.2.1 dX1_firstFrom_4 rfl (lv_at hl 3 rfl) ?_
    refine lv_bipush (v := nI 48) C0.1.1 C0.1.2.1 dX1_firstFrom_5 (by decide) ?_
    refine lv_icmp_ge (tgt := 55) C0.1.1 C0.1.2.1 dX1_firstFrom_7 (by decide) (fun c1 => ?_) (fun c1 => ?_)
    · rw [nI_leI (by omega) (by omega)] at c1
      obtain rfl : k = 48 := by omega
      refine lv_iload_n C0.1.1 C0.1.2.1 dX1_firstFrom_55 rfl (lv_at hl 2 rfl) ?_
      exact gs_reti r C0 hz (⟨rfl, by rw [mb_nx hI hk.2.2.1 hk.2.2.2 hm]⟩) (Nat.le_of_ble_eq_true rfl) (Nat.le_of_ble_eq_true rfl) dX1_firstFrom_56
    · rw [nI_leI (by omega) (by omega)] at c1
      refine lv_aload_n C0.1.1 C0.1.2.1 dX1_firstFrom_10 rfl (lv_at hl 0 rfl) ?_
      refine lv_iload_n C0.1.1 C0.1.2.1 dX1_firstFrom_11 rfl (lv_at hl 3 rfl) ?_
      refine gs_callVi (w := yw G q) (wr := []) C0.1 (m_has l G q r S hS hI k (by omega)) (cwV 1 C0.1.2.2.2.2 gX1_firstFrom_X1_has rfl rfl rfl (by decide +kernel) ⟨Nat.le_of_ble_eq_true rfl, Nat.le_of_ble_eq_true rfl⟩) (ci := 1) rfl rfl rfl (gs_nil hz) rfl hl.1 rfl (Nat.le_of_ble_eq_true rfl) dX1_firstFrom_12 ⟨Nat.le_of_ble_eq_true rfl, Nat.le_of_ble_eq_true rfl⟩ (fun res u9 H locs hp9 hz => ?_)
      replace hz := gs_unnil hz
      rw [hp9.1] at hz
      refine gs_eq (y := bI (decide (hs_u S k = 2))) (hp9.2) ?_
      clear hp9
      refine lv_if_eq (tgt := 49) C0.1.1 C0.1.2.1 dX1_firstFrom_15 (by decide) (fun c2 => ?_) (fun c2 => ?_)
      · skip
        rw [bI_d0] at c2
        refine lv_iinc (v := nI (k + 1)) (lv' := [(3, .int (nI (k + 1))), (0, .ref (q 0)), (1, .int (nI a)), (2, .int (oi o))]) C0.1.1 C0.1.2.1 dX1_firstFrom_49 hl (k := 3) rfl (nI_1 k) (by decide) rfl (fun ls hl => ?_)
        refine lv_goto (tgt := 4) C0.1.1 C0.1.2.1 dX1_firstFrom_52 (by decide) ?_
        have hl : lv_has ls 4 [(0, .ref (q 0)), (1, .int (nI a)), (2, .int (oi o)), (3, .int (nI (k + 1)))] := lv_sub hl [1, 2, 3, 0] rfl
        exact ih (d - 1) (by omega) (k + 1) o ls _ _ hz (by omega) (mb_no hm (fun z => c2 z.1)) hl
      · skip
        rw [bI_dn] at c2
        have h3 := hS.2.2.1 k (by omega) c2
        have hb3 := hI.b2 (h := k) (by omega) c2
        refine lv_aload_n C0.1.1 C0.1.2.1 dX1_firstFrom_18 rfl (lv_at hl 0 rfl) ?_
        refine yg_bg C0 hin hz l_bg dX1_firstFrom_19 ?_
        refine lv_iload_n C0.1.1 C0.1.2.1 dX1_firstFrom_22 rfl (lv_at hl 3 rfl) ?_
        refine yl_bg C0 hz k (by omega) rfl dX1_firstFrom_23 ?_
        refine gs_eq (y := nI (hs_b S k)) (h3.1) ?_
        refine lv_iload_n C0.1.1 C0.1.2.1 dX1_firstFrom_24 rfl (lv_at hl 1 rfl) ?_
        refine lv_icmp_lt (tgt := 49) C0.1.1 C0.1.2.1 dX1_firstFrom_25 (by decide) (fun c3 => ?_) (fun c3 => ?_)
        · rw [nI_ltI (by omega) (by omega)] at c3
          refine lv_iinc (v := nI (k + 1)) (lv' := [(3, .int (nI (k + 1))), (0, .ref (q 0)), (1, .int (nI a)), (2, .int (oi o))]) C0.1.1 C0.1.2.1 dX1_firstFrom_49 hl (k := 3) rfl (nI_1 k) (by decide) rfl (fun ls hl => ?_)
          refine lv_goto (tgt := 4) C0.1.1 C0.1.2.1 dX1_firstFrom_52 (by decide) ?_
          have hl : lv_has ls 4 [(0, .ref (q 0)), (1, .int (nI a)), (2, .int (oi o)), (3, .int (nI (k + 1)))] := lv_sub hl [1, 2, 3, 0] rfl
          exact ih (d - 1) (by omega) (k + 1) o ls _ _ hz (by omega) (mb_no hm (fun z => by have := z.2; omega)) hl
        · rw [nI_ltI (by omega) (by omega)] at c3
          rcases op_cases o with ⟨g, rfl⟩ | rfl
          · have hl : lv_has ls 4 [(0, .ref (q 0)), (1, .int (nI a)), (2, .int (nI g)), (3, .int (nI k))] := hl
            have hg := hm.1
            have hgu := hm.2.1.1
            have h4 := hS.2.2.1 g (by omega) hgu
            have hb4 := hI.b2 (h := g) (by omega) hgu
            refine lv_iload_n C0.1.1 C0.1.2.1 dX1_firstFrom_28 rfl (lv_at hl 2 rfl) ?_
            refine lv_if_lt (tgt := 47) C0.1.1 C0.1.2.1 dX1_firstFrom_29 (by decide) (fun c4 => ?_) (fun c4 => ?_)
            · rw [n0_lt (by omega)] at c4
              exact c4.elim
            · rw [n0_lt (by omega)] at c4
              refine lv_aload_n C0.1.1 C0.1.2.1 dX1_firstFrom_32 rfl (lv_at hl 0 rfl) ?_
              refine yg_bg C0 hin hz l_bg dX1_firstFrom_33 ?_
              refine lv_iload_n C0.1.1 C0.1.2.1 dX1_firstFrom_36 rfl (lv_at hl 3 rfl) ?_
              refine yl_bg C0 hz k (by omega) rfl dX1_firstFrom_37 ?_
              refine gs_eq (y := nI (hs_b S k)) (h3.1) ?_
              refine lv_aload_n C0.1.1 C0.1.2.1 dX1_firstFrom_38 rfl (lv_at hl 0 rfl) ?_
              refine yg_bg C0 hin hz l_bg dX1_firstFrom_39 ?_
              refine lv_iload_n C0.1.1 C0.1.2.1 dX1_firstFrom_42 rfl (lv_at hl 2 rfl) ?_
              refine yl_bg C0 hz g (by omega) rfl dX1_firstFrom_43 ?_
              refine gs_eq (y := nI (hs_b S g)) (h4.1) ?_
              refine lv_icmp_ge (tgt := 49) C0.1.1 C0.1.2.1 dX1_firstFrom_44 (by decide) (fun c5 => ?_) (fun c5 => ?_)
              · rw [nI_leI (by omega) (by omega)] at c5
                refine lv_iinc (v := nI (k + 1)) (lv' := [(3, .int (nI (k + 1))), (0, .ref (q 0)), (1, .int (nI a)), (2, .int (nI g))]) C0.1.1 C0.1.2.1 dX1_firstFrom_49 hl (k := 3) rfl (nI_1 k) (by decide) rfl (fun ls hl => ?_)
                refine lv_goto (tgt := 4) C0.1.1 C0.1.2.1 dX1_firstFrom_52 (by decide) ?_
                have hl : lv_has ls 4 [(0, .ref (q 0)), (1, .int (nI a)), (2, .int (nI g)), (3, .int (nI (k + 1)))] := lv_sub hl [1, 2, 3, 0] rfl
                exact ih (d - 1) (by omega) (k + 1) (some g) ls _ _ hz (by omega) (mb_ge hm c5) hl
              · rw [nI_leI (by omega) (by omega)] at c5
                refine lv_iload_n C0.1.1 C0.1.2.1 dX1_firstFrom_47 rfl (lv_at hl 3 rfl) ?_
                refine lv_istore_n (lv' := [(2, .int (nI k)), (0, .ref (q 0)), (1, .int (nI a)), (3, .int (nI k))]) C0.1.1 C0.1.2.1 dX1_firstFrom_48 rfl hl (by decide) rfl (fun ls hl => ?_)
                refine lv_iinc (v := nI (k + 1)) (lv' := [(3, .int (nI (k + 1))), (2, .int (nI k)), (0, .ref (q 0)), (1, .int (nI a))]) C0.1.1 C0.1.2.1 dX1_firstFrom_49 hl (k := 3) rfl (nI_1 k) (by decide) rfl (fun ls hl => ?_)
                refine lv_goto (tgt := 4) C0.1.1 C0.1.2.1 dX1_firstFrom_52 (by decide) ?_
                have hl : lv_has ls 4 [(0, .ref (q 0)), (1, .int (nI a)), (2, .int (nI k)), (3, .int (nI (k + 1)))] := lv_sub hl [2, 3, 1, 0] rfl
                exact ih (d - 1) (by omega) (k + 1) (some k) ls _ _ hz (by omega) (mb_new hm ⟨c2, by omega⟩ (by omega)) hl
          · have hl : lv_has ls 4 [(0, .ref (q 0)), (1, .int (nI a)), (2, .int (-1)), (3, .int (nI k))] := hl
            refine lv_iload_n C0.1.1 C0.1.2.1 dX1_firstFrom_28 rfl (lv_at hl 2 rfl) ?_
            refine lv_if_lt (tgt := 47) C0.1.1 C0.1.2.1 dX1_firstFrom_29 (by decide) (fun c4 => ?_) (fun c4 => ?_)
            · skip
              refine lv_iload_n C0.1.1 C0.1.2.1 dX1_firstFrom_47 rfl (lv_at hl 3 rfl) ?_
              refine lv_istore_n (lv' := [(2, .int (nI k)), (0, .ref (q 0)), (1, .int (nI a)), (3, .int (nI k))]) C0.1.1 C0.1.2.1 dX1_firstFrom_48 rfl hl (by decide) rfl (fun ls hl => ?_)
              refine lv_iinc (v := nI (k + 1)) (lv' := [(3, .int (nI (k + 1))), (2, .int (nI k)), (0, .ref (q 0)), (1, .int (nI a))]) C0.1.1 C0.1.2.1 dX1_firstFrom_49 hl (k := 3) rfl (nI_1 k) (by decide) rfl (fun ls hl => ?_)
              refine lv_goto (tgt := 4) C0.1.1 C0.1.2.1 dX1_firstFrom_52 (by decide) ?_
              have hl : lv_has ls 4 [(0, .ref (q 0)), (1, .int (nI a)), (2, .int (nI k)), (3, .int (nI (k + 1)))] := lv_sub hl [2, 3, 1, 0] rfl
              exact ih (d - 1) (by omega) (k + 1) (some k) ls _ _ hz (by omega) (mb_fst hm ⟨c2, by omega⟩) hl
            · skip
              exact absurd (by decide) c4
set_option maxHeartbeats 4000000 in
set_option maxRecDepth 100000 in
/-- freeTo -/
theorem m_freeTo (l : Launch) (G : gs_G) (q : Nat → Nat) (r : yr) (S : hs_S) (hS : ry S r) (hI : hs_I S) (a k0 : Nat) (hk : hs_nk S a k0) : gm_i l yX1_freeTo wsX1_freeTo (gm_rm 3 0 0) G (yw G q) r [.ref (q 0), .int (nI a)] (fun res u => u = r ∧ res = nI (hs_ge S k0)) 0 0 := by
  refine gm_i.of (cc := cX1_freeTo) (nL := 3) (ret := (some .int)) (by decide +kernel) rfl (Nat.le_of_ble_eq_true rfl) ?_
  intro p e s m args below meth c ls C0 hz hl
  have hin : ∀ w ∈ wsX10, w ∈ wsX1_freeTo := by decide +kernel
  have l_bg : Cond.fieldLink RX1 13 "HandleHeapModel" "begin" "[I" ∈ wsX1_freeTo := by decide +kernel
  have hl : lv_has ls 3 [(0, .ref (q 0)), (1, .int (nI a))] := hl
  refine lv_aload_n C0.1.1 C0.1.2.1 dX1_freeTo_0 rfl (lv_at hl 0 rfl) ?_
  refine lv_iload_n C0.1.1 C0.1.2.1 dX1_freeTo_1 rfl (lv_at hl 1 rfl) ?_
  by_cases hk0 : k0 < (hs_R S).length
  · skip
    have hat := hI.J.at hk0
    refine gs_callVi (w := yw G q) (wr := []) C0.1 (m_firstFrom l G q r S hS hI a k0 hk) (cwV 1 C0.1.2.2.2.2 gX1_freeTo_X1_firstFrom rfl rfl rfl (by decide +kernel) ⟨Nat.le_of_ble_eq_true rfl, Nat.le_of_ble_eq_true rfl⟩) (ci := 1) rfl rfl rfl (gs_nil hz) rfl hl.1 rfl (Nat.le_of_ble_eq_true rfl) dX1_freeTo_2 ⟨Nat.le_of_ble_eq_true rfl, Nat.le_of_ble_eq_true rfl⟩ (fun res u9 H locs hp9 hz => ?_)
    replace hz := gs_unnil hz
    rw [hp9.1] at hz
    refine gs_eq (y := nI (hg_at (hs_R S) k0)) (by rw [hp9.2, hs_nx_s hk0]; rfl) ?_
    clear hp9
    refine lv_istore_n (lv' := [(2, .int (nI (hg_at (hs_R S) k0))), (0, .ref (q 0)), (1, .int (nI a))]) C0.1.1 C0.1.2.1 dX1_freeTo_5 rfl hl (by decide) rfl (fun ls hl => ?_)
    refine lv_iload_n C0.1.1 C0.1.2.1 dX1_freeTo_6 rfl (lv_at hl 0 rfl) ?_
    refine lv_if_ge (tgt := 16) C0.1.1 C0.1.2.1 dX1_freeTo_7 (by decide) (fun c1 => ?_) (fun c1 => ?_)
    · rw [n0_ge (by omega)] at c1
      refine lv_aload_n C0.1.1 C0.1.2.1 dX1_freeTo_16 rfl (lv_at hl 1 rfl) ?_
      refine yg_bg C0 hin hz l_bg dX1_freeTo_17 ?_
      refine lv_iload_n C0.1.1 C0.1.2.1 dX1_freeTo_20 rfl (lv_at hl 0 rfl) ?_
      refine yl_bg C0 hz (hg_at (hs_R S) k0) (hat.1) rfl dX1_freeTo_21 ?_
      refine gs_eq (y := nI (hs_ge S k0)) (by rw [hs_ge_b hk0]; exact (hS.2.2.1 _ hat.1 hat.2).1) ?_
      exact gs_reti r C0 hz (⟨rfl, rfl⟩) (Nat.le_of_ble_eq_true rfl) (Nat.le_of_ble_eq_true rfl) dX1_freeTo_22
    · rw [n0_ge (by omega)] at c1
      exact absurd trivial c1
  · skip
    refine gs_callVi (w := yw G q) (wr := []) C0.1 (m_firstFrom l G q r S hS hI a k0 hk) (cwV 1 C0.1.2.2.2.2 gX1_freeTo_X1_firstFrom rfl rfl rfl (by decide +kernel) ⟨Nat.le_of_ble_eq_true rfl, Nat.le_of_ble_eq_true rfl⟩) (ci := 1) rfl rfl rfl (gs_nil hz) rfl hl.1 rfl (Nat.le_of_ble_eq_true rfl) dX1_freeTo_2 ⟨Nat.le_of_ble_eq_true rfl, Nat.le_of_ble_eq_true rfl⟩ (fun res u9 H locs hp9 hz => ?_)
    replace hz := gs_unnil hz
    rw [hp9.1] at hz
    refine gs_eq (y := (-1)) (by rw [hp9.2, hs_nx_n hk0]; rfl) ?_
    clear hp9
    refine lv_istore_n (lv' := [(2, .int ((-1))), (0, .ref (q 0)), (1, .int (nI a))]) C0.1.1 C0.1.2.1 dX1_freeTo_5 rfl hl (by decide) rfl (fun ls hl => ?_)
    refine lv_iload_n C0.1.1 C0.1.2.1 dX1_freeTo_6 rfl (lv_at hl 0 rfl) ?_
    refine lv_if_ge (tgt := 16) C0.1.1 C0.1.2.1 dX1_freeTo_7 (by decide) (fun c1 => ?_) (fun c1 => ?_)
    · skip
      exact absurd c1 (by decide)
    · skip
      refine lv_sipush (v := nI 1024) C0.1.1 C0.1.2.1 dX1_freeTo_10 (by decide) ?_
      refine lv_goto (tgt := 22) C0.1.1 C0.1.2.1 dX1_freeTo_13 (by decide) ?_
      exact gs_reti r C0 hz (⟨rfl, by rw [(hs_ge_1024 hI hk.2.1).mpr (by have := hk.2.1; omega)]⟩) (Nat.le_of_ble_eq_true rfl) (Nat.le_of_ble_eq_true rfl) dX1_freeTo_22
set_option maxHeartbeats 4000000 in
set_option maxRecDepth 100000 in
/-- firstToLose -/
theorem m_firstToLose (l : Launch) (G : gs_G) (q : Nat → Nat) (r : yr) (S : hs_S) (hS : ry S r) (hI : hs_I S) (but : Nat) (sp : Int32) (hsp : (but < 48 ∧ sp = nI but) ∨ (but = 48 ∧ sp = -1)) : gm_i l yX1_firstToLose wsX1_firstToLose (gm_rm 3 0 0) G (yw G q) r [.ref (q 0), .int sp] (fun res u => u = r ∧ res = oi (hs_l1 S but)) 0 0 := by
  refine gm_i.of (cc := cX1_firstToLose) (nL := 4) (ret := (some .int)) (by decide +kernel) rfl (Nat.le_of_ble_eq_true rfl) ?_
  intro p e s m args below meth c ls C0 hz hl
  have hin : ∀ w ∈ wsX10, w ∈ wsX1_firstToLose := by decide +kernel
  have l_ls : Cond.fieldLink RX1 26 "HandleHeapModel" "losable" "[Z" ∈ wsX1_firstToLose := by decide +kernel
  have l_bg : Cond.fieldLink RX1 13 "HandleHeapModel" "begin" "[I" ∈ wsX1_firstToLose := by decide +kernel
  have hl : lv_has ls 4 [(0, .ref (q 0)), (1, .int sp)] := hl
  have hbut : ∀ k, k < 48 → (nI k = sp ↔ k = but) := by
    intro k hk
    rcases hsp with ⟨h1, rfl⟩ | ⟨h1, rfl⟩
    · exact nI_eq (by omega) (by omega)
    · exact ⟨fun z => absurd z (n0_ne (by omega)), fun z => by omega⟩
  refine lv_iconst (v := (-1)) C0.1.1 C0.1.2.1 dX1_firstToLose_0 (by decide) ?_
  refine lv_istore_n (lv' := [(2, .int (-1)), (0, .ref (q 0)), (1, .int sp)]) C0.1.1 C0.1.2.1 dX1_firstToLose_1 rfl hl (by decide) rfl (fun ls hl => ?_)
  refine lv_iconst (v := nI 0) C0.1.1 C0.1.2.1 dX1_firstToLose_2 (by decide) ?_
  refine lv_istore_n (lv' := [(3, .int (nI 0)), (2, .int (-1)), (0, .ref (q 0)), (1, .int sp)]) C0.1.1 C0.1.2.1 dX1_firstToLose_3 rfl hl (by decide) rfl (fun ls hl => ?_)
  have hl : lv_has ls 4 [(0, .ref (q 0)), (1, .int sp), (2, .int (-1)), (3, .int (nI 0))] := lv_sub hl [2, 3, 1, 0] rfl
  refine (?loop : ∀ (d k : Nat) (o : Option Nat) (ls : Array Slot) (H : Heap) (locs : List Loc), gs_Z G (yw G q r) _ s H locs → k + d = 48 → mb (hs_pl S but) (hs_b S) k o → lv_has ls 4 [(0, .ref (q 0)), (1, .int sp), (2, .int (oi o)), (3, .int (nI k))] → W p l e _ s m args below meth c H locs 0 0 _ (F0 m 4 ls [])) 48 0 none ls _ _ hz (Nat.zero_add _) mb_0 hl
  intro d
  induction d using Nat.strongRecOn with
  | _ d ih =>
    intro k o ls H locs hz hd hm hl
    refine lv_iload_n C0.1.1 C0.1.2.1 dX1_firstToLose_4 rfl (lv_at hl 3 rfl) ?_
    refine lv_bipush (v := nI 48) C0.1.1 C0.1.2.1 dX1_firstToLose_5 (by decide) ?_
    refine lv_icmp_ge (tgt := 59) C0.1.1 C0.1.2.1 dX1_firstToLose_7 (by decide) (fun c1 => ?_) (fun c1 => ?_)
    · rw [nI_leI (by omega) (by omega)] at c1
      obtain rfl : k = 48 := by omega
      refine lv_iload_n C0.1.1 C0.1.2.1 dX1_firstToLose_59 rfl (lv_at hl 2 rfl) ?_
      exact gs_reti r C0 hz (⟨rfl, by rw [mb_l1 hI hm]⟩) (Nat.le_of_ble_eq_true rfl) (Nat.le_of_ble_eq_true rfl) dX1_firstToLose_60
    · rw [nI_leI (by omega) (by omega)] at c1
      refine lv_iload_n C0.1.1 C0.1.2.1 dX1_firstToLose_10 rfl (lv_at hl 3 rfl) ?_
      refine lv_iload_n C0.1.1 C0.1.2.1 dX1_firstToLose_11 rfl (lv_at hl 1 rfl) ?_
      refine lv_icmp_eq (tgt := 53) C0.1.1 C0.1.2.1 dX1_firstToLose_12 (by decide) (fun c0 => ?_) (fun c0 => ?_)
      · skip
        rw [hbut k (by omega)] at c0
        refine lv_iinc (v := nI (k + 1)) (lv' := [(3, .int (nI (k + 1))), (0, .ref (q 0)), (1, .int sp), (2, .int (oi o))]) C0.1.1 C0.1.2.1 dX1_firstToLose_53 hl (k := 3) rfl (nI_1 k) (by decide) rfl (fun ls hl => ?_)
        refine lv_goto (tgt := 4) C0.1.1 C0.1.2.1 dX1_firstToLose_56 (by decide) ?_
        have hl : lv_has ls 4 [(0, .ref (q 0)), (1, .int sp), (2, .int (oi o)), (3, .int (nI (k + 1)))] := lv_sub hl [1, 2, 3, 0] rfl
        exact ih (d - 1) (by omega) (k + 1) o ls _ _ hz (by omega) (mb_no hm (fun z => z.1 c0)) hl
      · skip
        rw [hbut k (by omega)] at c0
        refine lv_aload_n C0.1.1 C0.1.2.1 dX1_firstToLose_15 rfl (lv_at hl 0 rfl) ?_
        refine lv_iload_n C0.1.1 C0.1.2.1 dX1_firstToLose_16 rfl (lv_at hl 3 rfl) ?_
        refine gs_callVi (w := yw G q) (wr := []) C0.1 (m_isMovable l G q r S hS hI k (by omega)) (cwV 1 C0.1.2.2.2.2 gX1_firstToLose_X1_isMovable rfl rfl rfl (by decide +kernel) ⟨Nat.le_of_ble_eq_true rfl, Nat.le_of_ble_eq_true rfl⟩) (ci := 1) rfl rfl rfl (gs_nil hz) rfl hl.1 rfl (Nat.le_of_ble_eq_true rfl) dX1_firstToLose_17 ⟨Nat.le_of_ble_eq_true rfl, Nat.le_of_ble_eq_true rfl⟩ (fun res u9 H locs hp9 hz => ?_)
        replace hz := gs_unnil hz
        rw [hp9.1] at hz
        refine gs_eq (y := bI (decide (hs_u S k = 2 ∧ hs_mv S k = true))) (hp9.2) ?_
        clear hp9
        refine lv_if_eq (tgt := 53) C0.1.1 C0.1.2.1 dX1_firstToLose_20 (by decide) (fun c2 => ?_) (fun c2 => ?_)
        · skip
          rw [bI_d0] at c2
          refine lv_iinc (v := nI (k + 1)) (lv' := [(3, .int (nI (k + 1))), (0, .ref (q 0)), (1, .int sp), (2, .int (oi o))]) C0.1.1 C0.1.2.1 dX1_firstToLose_53 hl (k := 3) rfl (nI_1 k) (by decide) rfl (fun ls hl => ?_)
          refine lv_goto (tgt := 4) C0.1.1 C0.1.2.1 dX1_firstToLose_56 (by decide) ?_
          have hl : lv_has ls 4 [(0, .ref (q 0)), (1, .int sp), (2, .int (oi o)), (3, .int (nI (k + 1)))] := lv_sub hl [1, 2, 3, 0] rfl
          exact ih (d - 1) (by omega) (k + 1) o ls _ _ hz (by omega) (mb_no hm (fun z => c2 z.2.1)) hl
        · skip
          rw [bI_dn] at c2
          have h3 := hS.2.2.1 k (by omega) c2.1
          have hb3 := hI.b2 (h := k) (by omega) c2.1
          refine lv_aload_n C0.1.1 C0.1.2.1 dX1_firstToLose_23 rfl (lv_at hl 0 rfl) ?_
          refine yg_ls C0 hin hz l_ls dX1_firstToLose_24 ?_
          refine lv_iload_n C0.1.1 C0.1.2.1 dX1_firstToLose_27 rfl (lv_at hl 3 rfl) ?_
          refine yl_ls C0 hz k (by omega) rfl dX1_firstToLose_28 ?_
          refine gs_eq (y := bI (hs_o S k)) (h3.2.2.2) ?_
          refine lv_if_eq (tgt := 53) C0.1.1 C0.1.2.1 dX1_firstToLose_29 (by decide) (fun c3 => ?_) (fun c3 => ?_)
          · skip
            rw [bI_0] at c3
            refine lv_iinc (v := nI (k + 1)) (lv' := [(3, .int (nI (k + 1))), (0, .ref (q 0)), (1, .int sp), (2, .int (oi o))]) C0.1.1 C0.1.2.1 dX1_firstToLose_53 hl (k := 3) rfl (nI_1 k) (by decide) rfl (fun ls hl => ?_)
            refine lv_goto (tgt := 4) C0.1.1 C0.1.2.1 dX1_firstToLose_56 (by decide) ?_
            have hl : lv_has ls 4 [(0, .ref (q 0)), (1, .int sp), (2, .int (oi o)), (3, .int (nI (k + 1)))] := lv_sub hl [1, 2, 3, 0] rfl
            exact ih (d - 1) (by omega) (k + 1) o ls _ _ hz (by omega) (mb_no hm (fun z => by have z2 := z.2.2; rw [c3] at z2; cases z2)) hl
          · skip
            rw [bI_0, Bool.not_eq_false] at c3
            rcases op_cases o with ⟨g, rfl⟩ | rfl
            · have hl : lv_has ls 4 [(0, .ref (q 0)), (1, .int sp), (2, .int (nI g)), (3, .int (nI k))] := hl
              have hg := hm.1
              have hgu := hm.2.1.2.1.1
              have h4 := hS.2.2.1 g (by omega) hgu
              have hb4 := hI.b2 (h := g) (by omega) hgu
              refine lv_iload_n C0.1.1 C0.1.2.1 dX1_firstToLose_32 rfl (lv_at hl 2 rfl) ?_
              refine lv_if_lt (tgt := 51) C0.1.1 C0.1.2.1 dX1_firstToLose_33 (by decide) (fun c4 => ?_) (fun c4 => ?_)
              · rw [n0_lt (by omega)] at c4
                exact c4.elim
              · rw [n0_lt (by omega)] at c4
                refine lv_aload_n C0.1.1 C0.1.2.1 dX1_firstToLose_36 rfl (lv_at hl 0 rfl) ?_
                refine yg_bg C0 hin hz l_bg dX1_firstToLose_37 ?_
                refine lv_iload_n C0.1.1 C0.1.2.1 dX1_firstToLose_40 rfl (lv_at hl 3 rfl) ?_
                refine yl_bg C0 hz k (by omega) rfl dX1_firstToLose_41 ?_
                refine gs_eq (y := nI (hs_b S k)) (h3.1) ?_
                refine lv_aload_n C0.1.1 C0.1.2.1 dX1_firstToLose_42 rfl (lv_at hl 0 rfl) ?_
                refine yg_bg C0 hin hz l_bg dX1_firstToLose_43 ?_
                refine lv_iload_n C0.1.1 C0.1.2.1 dX1_firstToLose_46 rfl (lv_at hl 2 rfl) ?_
                refine yl_bg C0 hz g (by omega) rfl dX1_firstToLose_47 ?_
                refine gs_eq (y := nI (hs_b S g)) (h4.1) ?_
                refine lv_icmp_ge (tgt := 53) C0.1.1 C0.1.2.1 dX1_firstToLose_48 (by decide) (fun c5 => ?_) (fun c5 => ?_)
                · rw [nI_leI (by omega) (by omega)] at c5
                  refine lv_iinc (v := nI (k + 1)) (lv' := [(3, .int (nI (k + 1))), (0, .ref (q 0)), (1, .int sp), (2, .int (nI g))]) C0.1.1 C0.1.2.1 dX1_firstToLose_53 hl (k := 3) rfl (nI_1 k) (by decide) rfl (fun ls hl => ?_)
                  refine lv_goto (tgt := 4) C0.1.1 C0.1.2.1 dX1_firstToLose_56 (by decide) ?_
                  have hl : lv_has ls 4 [(0, .ref (q 0)), (1, .int sp), (2, .int (nI g)), (3, .int (nI (k + 1)))] := lv_sub hl [1, 2, 3, 0] rfl
                  exact ih (d - 1) (by omega) (k + 1) (some g) ls _ _ hz (by omega) (mb_ge hm c5) hl
                · rw [nI_leI (by omega) (by omega)] at c5
                  refine lv_iload_n C0.1.1 C0.1.2.1 dX1_firstToLose_51 rfl (lv_at hl 3 rfl) ?_
                  refine lv_istore_n (lv' := [(2, .int (nI k)), (0, .ref (q 0)), (1, .int sp), (3, .int (nI k))]) C0.1.1 C0.1.2.1 dX1_firstToLose_52 rfl hl (by decide) rfl (fun ls hl => ?_)
                  refine lv_iinc (v := nI (k + 1)) (lv' := [(3, .int (nI (k + 1))), (2, .int (nI k)), (0, .ref (q 0)), (1, .int sp)]) C0.1.1 C0.1.2.1 dX1_firstToLose_53 hl (k := 3) rfl (nI_1 k) (by decide) rfl (fun ls hl => ?_)
                  refine lv_goto (tgt := 4) C0.1.1 C0.1.2.1 dX1_firstToLose_56 (by decide) ?_
                  have hl : lv_has ls 4 [(0, .ref (q 0)), (1, .int sp), (2, .int (nI k)), (3, .int (nI (k + 1)))] := lv_sub hl [2, 3, 1, 0] rfl
                  exact ih (d - 1) (by omega) (k + 1) (some k) ls _ _ hz (by omega) (mb_new hm ⟨c0, c2, c3⟩ (by omega)) hl
            · have hl : lv_has ls 4 [(0, .ref (q 0)), (1, .int sp), (2, .int (-1)), (3, .int (nI k))] := hl
              refine lv_iload_n C0.1.1 C0.1.2.1 dX1_firstToLose_32 rfl (lv_at hl 2 rfl) ?_
              refine lv_if_lt (tgt := 51) C0.1.1 C0.1.2.1 dX1_firstToLose_33 (by decide) (fun c4 => ?_) (fun c4 => ?_)
              · skip
                refine lv_iload_n C0.1.1 C0.1.2.1 dX1_firstToLose_51 rfl (lv_at hl 3 rfl) ?_
                refine lv_istore_n (lv' := [(2, .int (nI k)), (0, .ref (q 0)), (1, .int sp), (3, .int (nI k))]) C0.1.1 C0.1.2.1 dX1_firstToLose_52 rfl hl (by decide) rfl (fun ls hl => ?_)
                refine lv_iinc (v := nI (k + 1)) (lv' := [(3, .int (nI (k + 1))), (2, .int (nI k)), (0, .ref (q 0)), (1, .int sp)]) C0.1.1 C0.1.2.1 dX1_firstToLose_53 hl (k := 3) rfl (nI_1 k) (by decide) rfl (fun ls hl => ?_)
                refine lv_goto (tgt := 4) C0.1.1 C0.1.2.1 dX1_firstToLose_56 (by decide) ?_
                have hl : lv_has ls 4 [(0, .ref (q 0)), (1, .int sp), (2, .int (nI k)), (3, .int (nI (k + 1)))] := lv_sub hl [2, 3, 1, 0] rfl
                exact ih (d - 1) (by omega) (k + 1) (some k) ls _ _ hz (by omega) (mb_fst hm ⟨c0, c2, c3⟩) hl
              · skip
                exact absurd (by decide) c4
