/-! WHAT EACH CALL ASKS: (0: it returns; else which throw of its own list), the answer, the state then -/
abbrev sp_T : Type := Nat × Int32 × hs_S
def nd (lo hi : Nat) (x : Int32) : Option Nat := if nI lo ≤ x ∧ x ≤ nI hi then some x.toNatClampNeg else none
theorem nd_some {lo hi : Nat} {x : Int32} {k : Nat} (hh : hi < 2 ^ 31) (hl : lo ≤ hi) (h : nd lo hi x = some k) : lo ≤ k ∧ k ≤ hi ∧ x = nI k := by
  unfold nd at h
  by_cases q : nI lo ≤ x ∧ x ≤ nI hi
  · rw [if_pos q] at h
    cases h
    have h0 : ¬ x < 0 := fun z => by
      have h1 := nI_pos' (n := lo) (by omega)
      have h2 : (0 : Int32) ≤ x := Int32.le_trans h1 q.1
      exact absurd z (Int32.not_lt.mpr h2)
    obtain ⟨j, hj, rfl⟩ := nI_of h0
    rw [nI_clamp hj]
    rw [nI_leI (by omega) hj, nI_leI hj hh] at q
    exact ⟨q.1, q.2, rfl⟩
  · rw [if_neg q] at h
    cases h
theorem nd_nI {lo hi k : Nat} (hh : hi < 2 ^ 31) (hl : lo ≤ k) (hk : k ≤ hi) : nd lo hi (nI k) = some k := by
  unfold nd
  rw [if_pos ⟨(nI_leI (by omega) (by omega)).mpr hl, (nI_leI (by omega) hh).mpr hk⟩, nI_clamp (by omega)]
theorem nd_none {lo hi : Nat} {x : Int32} (h : ¬ (nI lo ≤ x ∧ x ≤ nI hi)) : nd lo hi x = none := by
  unfold nd
  rw [if_neg h]
theorem nd_cases (lo hi : Nat) (x : Int32) (hh : hi < 2 ^ 31) (hl : lo ≤ hi) : (∃ k, lo ≤ k ∧ k ≤ hi ∧ x = nI k ∧ nd lo hi x = some k) ∨ (nd lo hi x = none ∧ ¬ ∃ k, lo ≤ k ∧ k ≤ hi ∧ x = nI k) := by
  cases e : nd lo hi x with
  | some k =>
    obtain ⟨h1, h2, h3⟩ := nd_some hh hl e
    exact Or.inl ⟨k, h1, h2, h3, rfl⟩
  | none =>
    refine Or.inr ⟨rfl, fun ⟨k, h1, h2, h3⟩ => ?_⟩
    rw [h3, nd_nI hh h1 h2] at e
    cases e
/-- where a handle stands in the row -/
def hg_ix (h : Nat) : List Nat → Nat
  | [] => 0
  | x :: t => if x = h then 0 else hg_ix h t + 1
theorem hg_ix_ok {h : Nat} : ∀ {R : List Nat}, h ∈ R → hg_ix h R < R.length ∧ hg_at R (hg_ix h R) = h := by
  intro R
  induction R with
  | nil => intro q; cases q
  | cons x t ih =>
    intro q
    rw [hg_ix]
    by_cases e : x = h
    · rw [if_pos e]; exact ⟨Nat.zero_lt_succ _, e⟩
    · rw [if_neg e]
      rcases List.mem_cons.mp q with z | z
      · exact absurd z.symm e
      · have := ih z
        exact ⟨Nat.succ_lt_succ this.1, this.2⟩
/-- how many bytes are free behind a handle's block -/
def hs_fb (S : hs_S) (h : Nat) : Nat := hs_gl S (hg_ix h (hs_R S) + 1)
/-- a handle's state of use asked for: f what is done with a handle in use -/
def sp_use (S : hs_S) (x : Int32) (f : Nat → sp_T) : sp_T := match nd 0 47 x with
  | none => (1, 0, S)
  | some h => if hs_u S h = 0 then (1, 0, S) else f h
def sp_has (S : hs_S) (x : Int32) (f : Nat → sp_T) : sp_T := sp_use S x (fun h => if hs_u S h = 1 then (2, 0, S) else f h)
def sp_mk (S : hs_S) (h n : Nat) (fx : Bool) (a b : Int32) : sp_T := match (hs_room S n 48).2 with
  | none => (0, b, (hs_room S n 48).1)
  | some k => (0, a, hs_mk (hs_room S n 48).1 h (hs_gb (hs_room S n 48).1 k) n fx)
def sp_ask (S : hs_S) (x : Int32) (fx : Bool) : sp_T := match nd 1 1024 x with
  | none => (1, 0, S)
  | some n => match hs_lu (hs_u S) 0 48 with
    | none => (0, -1, S)
    | some h => sp_mk S h n fx (nI h) (-1)
def sp_drop (S : hs_S) (x : Int32) : sp_T := sp_use S x (fun h => (0, nI (hs_n S h), hs_tk S h 0))
def sp_gr (S : hs_S) (h n : Nat) : sp_T := match (hs_room S n h).2 with
  | none => (0, nI 0, (hs_room S n h).1)
  | some k => (0, nI 1, hs_gr (hs_room S n h).1 h (hs_gb (hs_room S n h).1 k) n)
def sp_resize (S : hs_S) (x y : Int32) : sp_T := sp_use S x (fun h => match nd 1 1024 y with
  | none => (1, 0, S)
  | some n => if hs_u S h = 1 then sp_mk S h n false (nI 1) (nI 0) else if n ≤ hs_n S h + hs_fb S h then (0, nI 1, hs_sz S h n) else if hs_mv S h = true then sp_gr S h n else (0, nI 0, S))
def sp_lock (S : hs_S) (x : Int32) (v : Bool) : sp_T := sp_has S x (fun h => (0, bI (hs_l S h), (hs_R S, hs_b S, hs_n S, hs_u S, hs_f S, va_up (hs_l S) h v, hs_o S, hs_y S, hs_m S, hs_x S)))
def sp_losable (S : hs_S) (x : Int32) (v : Bool) : sp_T := sp_has S x (fun h => (0, bI (hs_o S h), (hs_R S, hs_b S, hs_n S, hs_u S, hs_f S, hs_l S, va_up (hs_o S) h v, hs_y S, hs_m S, hs_x S)))
def sp_lose (S : hs_S) (x : Int32) : sp_T := sp_has S x (fun h => if hs_mv S h = true then (0, nI 1, hs_gu S h) else (0, nI 0, S))
def sp_lift (S : hs_S) (x : Int32) : sp_T := sp_has S x (fun h => if hs_mv S h = true then (0, nI (hs_fb S h), hs_go S h (hs_b S h + hs_fb S h)) else (2, 0, S))
def sp_slide (S : hs_S) : sp_T := (0, nI (hs_gg (hs_sl S)), hs_sl S)
def sp_clear (S : hs_S) (y : Int32) : sp_T := match nd 0 1024 y with
  | none => (1, 0, S)
  | some n => (0, nI (hs_cl n 48 S 0).2, (hs_cl n 48 S 0).1)
def sp_where (S : hs_S) (x : Int32) : sp_T := match nd 0 47 x with
  | none => (1, 0, S)
  | some h => (0, xb (hs_u S h) (hs_b S h), S)
def sp_size (S : hs_S) (x : Int32) : sp_T := match nd 0 47 x with
  | none => (1, 0, S)
  | some h => (0, nI (hs_n S h), S)
def sp_put (S : hs_S) (x i v : Int32) : sp_T := match nd 0 255 v with
  | none => (1, 0, S)
  | some _ => sp_has S x (fun h => if 0 ≤ i ∧ i < nI (hs_n S h) then (0, hs_y S h i.toNatClampNeg, (hs_R S, hs_b S, hs_n S, hs_u S, hs_f S, hs_l S, hs_o S, va_up (hs_y S) h (va_up (hs_y S h) i.toNatClampNeg v), hs_m S, hs_x S)) else (3, 0, S))
def sp_get (S : hs_S) (x i : Int32) : sp_T := sp_has S x (fun h => if 0 ≤ i ∧ i < nI (hs_n S h) then (0, hs_y S h i.toNatClampNeg, S) else (3, 0, S))
/-- whose block has the byte a: from block k of the row on, of d more -/
def hs_ow (S : hs_S) (a : Nat) : Nat → Nat → Option Nat
  | 0, _ => none
  | d + 1, k => if hs_b S (hg_at (hs_R S) k) ≤ a ∧ a < hs_b S (hg_at (hs_R S) k) + hs_n S (hg_at (hs_R S) k) then some (hg_at (hs_R S) k) else hs_ow S a d (k + 1)
def sp_owner (S : hs_S) (x : Int32) : sp_T := match nd 0 1023 x with
  | none => (1, 0, S)
  | some a => (0, oi (hs_ow S a (hs_R S).length 0), S)
def sp_told (S : hs_S) (x : Int32) : sp_T := match nd 0 6 x with
  | none => (1, 0, S)
  | some 0 => (0, nI (hs_sm S ((hs_R S).length + 1)), S)
  | some 1 => (0, nI (hs_gg S), S)
  | some 2 => (0, nI (hs_ct S ((hs_R S).length + 1)), S)
  | some 3 => (0, nI (48 - hs_cn (hs_u S) 0 48), S)
  | some 4 => (0, nI (hs_cn (hs_u S) 1 48), S)
  | some 5 => (0, hs_m S, S)
  | some _ => (0, hs_x S, S)
def xIA : String := "java/lang/IllegalArgumentException"
def xIS : String := "java/lang/IllegalStateException"
def xIO : String := "java/lang/IndexOutOfBoundsException"
/-- which throw is which -/
def ex (k : Nat) (E : String) : Prop := (k = 1 ∧ E = xIA) ∨ (k = 2 ∧ E = xIS) ∨ (k = 3 ∧ E = xIO)
/-- what a call of the class's face owes: the answer and the state, or the throw -/
def px (t : sp_T) (res : Int32) (u : xr) : Prop := t.1 = 0 ∧ res = t.2.1 ∧ rx t.2.2 u
theorem sp_use_no {S : hs_S} {x : Int32} {f : Nat → sp_T} (h : ¬ ∃ k, k < 48 ∧ x = nI k ∧ hs_u S k ≠ 0) : sp_use S x f = (1, 0, S) := by
  unfold sp_use
  rcases nd_cases 0 47 x (by decide) (by decide) with ⟨k, -, h2, h3, h4⟩ | ⟨h4, -⟩
  · rw [h4]
    dsimp only
    by_cases q : hs_u S k = 0
    · rw [if_pos q]
    · exact absurd ⟨k, by omega, h3, q⟩ h
  · rw [h4]
theorem sp_use_h {S : hs_S} {h : Nat} {f : Nat → sp_T} (hh : h < 48) (hu : hs_u S h ≠ 0) : sp_use S (nI h) f = f h := by
  unfold sp_use
  rw [nd_nI (by decide) (Nat.zero_le _) (by omega)]
  dsimp only
  rw [if_neg hu]
theorem sp_has_no {S : hs_S} {x : Int32} {f : Nat → sp_T} (h : ¬ ∃ k, k < 48 ∧ x = nI k ∧ hs_u S k ≠ 0) : sp_has S x f = (1, 0, S) := sp_use_no h
theorem sp_has_e {S : hs_S} {h : Nat} {f : Nat → sp_T} (hh : h < 48) (hu : hs_u S h = 1) : sp_has S (nI h) f = (2, 0, S) := by
  unfold sp_has
  rw [sp_use_h hh (by omega), if_pos hu]
theorem sp_has_h {S : hs_S} {h : Nat} {f : Nat → sp_T} (hh : h < 48) (hu : hs_u S h = 2) : sp_has S (nI h) f = f h := by
  unfold sp_has
  rw [sp_use_h hh (by omega), if_neg (by omega)]
