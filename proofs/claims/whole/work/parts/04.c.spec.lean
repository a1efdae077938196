/-! THE WHOLE STATE: (R, b, n, u, f, l, o, y, m, x): the row; where a block begins; how many bytes it has; 0 unused, 1 empty, 2 has a block; fixed, locked, losable; its bytes; bytes moved, blocks lost -/
abbrev hs_S : Type := List Nat × (Nat → Nat) × (Nat → Nat) × (Nat → Nat) × (Nat → Bool) × (Nat → Bool) × (Nat → Bool) × (Nat → Nat → Int32) × Int32 × Int32
def hs_R (S : hs_S) : List Nat := S.1
def hs_b (S : hs_S) : Nat → Nat := S.2.1
def hs_n (S : hs_S) : Nat → Nat := S.2.2.1
def hs_u (S : hs_S) : Nat → Nat := S.2.2.2.1
def hs_f (S : hs_S) : Nat → Bool := S.2.2.2.2.1
def hs_l (S : hs_S) : Nat → Bool := S.2.2.2.2.2.1
def hs_o (S : hs_S) : Nat → Bool := S.2.2.2.2.2.2.1
def hs_y (S : hs_S) : Nat → Nat → Int32 := S.2.2.2.2.2.2.2.1
def hs_m (S : hs_S) : Int32 := S.2.2.2.2.2.2.2.2.1
def hs_x (S : hs_S) : Int32 := S.2.2.2.2.2.2.2.2.2
def hs_mv (S : hs_S) (h : Nat) : Bool := !hs_f S h && !hs_l S h
def hs_gb (S : hs_S) (k : Nat) : Nat := hg_gb (hs_R S) (hs_b S) (hs_n S) k
def hs_gl (S : hs_S) (k : Nat) : Nat := hg_gl (hs_R S) (hs_b S) (hs_n S) k
/-- what always holds between two calls -/
def hs_I (S : hs_S) : Prop := hg_I (hs_R S) (hs_b S) (hs_n S) ∧ (∀ h, h ∈ hs_R S ↔ (h < 48 ∧ hs_u S h = 2)) ∧ ∀ h, h < 48 → hs_u S h ≠ 2 → hs_n S h = 0 ∧ hs_u S h < 2
def hs_slk (S : hs_S) (k : Nat) : hs_S := (hs_R S, hg_slb (hs_R S) (hs_n S) (hs_mv S) (hs_b S) k, hs_n S, hs_u S, hs_f S, hs_l S, hs_o S, hs_y S, hg_slm (hs_R S) (hs_n S) (hs_mv S) (hs_b S) (hs_m S) k, hs_x S)
/-- the heap slid together -/
def hs_sl (S : hs_S) : hs_S := hs_slk S (hs_R S).length
/-- the first gap that has n bytes, from gap k on, of d more -/
def hs_fk (S : hs_S) (n : Nat) : Nat → Nat → Option Nat
  | 0, _ => none
  | d + 1, k => if n ≤ hs_gl S k then some k else hs_fk S n d (k + 1)
def hs_pk (S : hs_S) (n : Nat) : Option Nat := hs_fk S n ((hs_R S).length + 1) 0
/-- the first block that may be lost, from block k on, of d more; but: the handle that asks (48: none) -/
def hs_lf (S : hs_S) (but : Nat) : Nat → Nat → Option Nat
  | 0, _ => none
  | d + 1, k => if hg_at (hs_R S) k ≠ but ∧ hs_o S (hg_at (hs_R S) k) = true ∧ hs_mv S (hg_at (hs_R S) k) = true then some (hg_at (hs_R S) k) else hs_lf S but d (k + 1)
def hs_l1 (S : hs_S) (but : Nat) : Option Nat := hs_lf S but (hs_R S).length 0
/-- the block of h goes: its handle is v then -/
def hs_tk (S : hs_S) (h v : Nat) : hs_S := (hg_out (hs_R S) h, hs_b S, va_up (hs_n S) h 0, va_up (hs_u S) h v, hs_f S, hs_l S, hs_o S, hs_y S, hs_m S, hs_x S)
/-- it is lost -/
def hs_gu (S : hs_S) (h : Nat) : hs_S := (hg_out (hs_R S) h, hs_b S, va_up (hs_n S) h 0, va_up (hs_u S) h 1, hs_f S, hs_l S, hs_o S, hs_y S, hs_m S, hs_x S + 1)
/-- ROOM, once the heap has been slid: lose, slide, look, at most so often -/
def hs_rm (n but : Nat) : Nat → hs_S → hs_S × Option Nat
  | 0, S => (S, hs_pk S n)
  | d + 1, S => match hs_pk S n with
    | some k => (S, some k)
    | none => match hs_l1 S but with
      | none => (S, none)
      | some h => hs_rm n but d (hs_sl (hs_gu S h))
def hs_room (S : hs_S) (n but : Nat) : hs_S × Option Nat := match hs_pk S n with
  | some k => (S, some k)
  | none => hs_rm n but 48 (hs_sl S)
/-- a new block of n bytes at the byte a -/
def hs_mk (S : hs_S) (h a n : Nat) (fx : Bool) : hs_S := (hg_ins (va_up (hs_b S) h a) h (hs_R S), va_up (hs_b S) h a, va_up (hs_n S) h n, va_up (hs_u S) h 2, va_up (hs_f S) h fx, va_up (hs_l S) h false, va_up (hs_o S) h false, va_up (hs_y S) h (fun _ => 0), hs_m S, hs_x S)
/-- the block gets n bytes where it stands -/
def hs_sz (S : hs_S) (h n : Nat) : hs_S := (hs_R S, hs_b S, va_up (hs_n S) h n, hs_u S, hs_f S, hs_l S, hs_o S, va_up (hs_y S) h (fun i => if hs_n S h ≤ i then 0 else hs_y S h i), hs_m S, hs_x S)
/-- it goes to the byte a -/
def hs_go (S : hs_S) (h a : Nat) : hs_S := (hs_R S, va_up (hs_b S) h a, hs_n S, hs_u S, hs_f S, hs_l S, hs_o S, hs_y S, if a = hs_b S h then hs_m S else hs_m S + nI (hs_n S h), hs_x S)
/-- it goes to the byte a, its place in the row being another, and grows there to n bytes -/
def hs_gr (S : hs_S) (h a n : Nat) : hs_S := (hg_ins (va_up (hs_b S) h a) h (hg_out (hs_R S) h), va_up (hs_b S) h a, va_up (hs_n S) h n, hs_u S, hs_f S, hs_l S, hs_o S, va_up (hs_y S) h (fun i => if hs_n S h ≤ i then 0 else hs_y S h i), hs_m S + nI (hs_n S h), hs_x S)
def hs_mx (S : hs_S) : Nat → Nat
  | 0 => 0
  | k + 1 => max (hs_mx S k) (hs_gl S k)
/-- the greatest free block -/
def hs_gg (S : hs_S) : Nat := hs_mx S ((hs_R S).length + 1)
def hs_sm (S : hs_S) : Nat → Nat
  | 0 => 0
  | k + 1 => hs_sm S k + hs_gl S k
def hs_ct (S : hs_S) : Nat → Nat
  | 0 => 0
  | k + 1 => if 0 < hs_gl S k then hs_ct S k + 1 else hs_ct S k
/-- clear: at most d times more, k having been lost -/
def hs_cl (n : Nat) : Nat → hs_S → Nat → hs_S × Nat
  | 0, S, k => (S, k)
  | d + 1, S, k => if hs_gg S < n then (match hs_l1 S 48 with
      | none => (S, k)
      | some h => hs_cl n d (hs_sl (hs_gu S h)) (k + 1)) else (S, k)
/-- how many handles, of the first k, are in the state v -/
def hs_cn (u : Nat → Nat) (v : Nat) : Nat → Nat
  | 0 => 0
  | k + 1 => if u k = v then hs_cn u v k + 1 else hs_cn u v k
/-- the least unused handle at or above k, of d more -/
def hs_lu (u : Nat → Nat) (k : Nat) : Nat → Option Nat
  | 0 => none
  | d + 1 => if u k = 0 then some k else hs_lu u (k + 1) d
