/-! THE REFERENCE: sendOut -/
/-- the BUFFERS of a set of a SHEET's places -/
def sbN (bb : Nat → Nat) (D : Nat) : Nat → Nat
  | 0 => 0
  | k + 1 => if tb D k = true then sbN bb D k ||| 2 ^ bb k else sbN bb D k
theorem sbN_lt {bb : Nat → Nat} {D : Nat} : ∀ {n : Nat}, (∀ i, i < n → bb i < 12) → sbN bb D n < 4096 := by
  intro n
  induction n with
  | zero => intro _; exact (show 0 < 4096 by decide)
  | succ n ih =>
    intro h
    rw [sbN]
    split
    · exact or_lt (n := 12) (ih (fun i hi => h i (by omega))) (h n (by omega))
    · exact ih (fun i hi => h i (by omega))
/-- the time that a set takes -/
def stN (P : Nat → Nat → Int32) (o : Nat → Nat) (D rate : Nat) : Nat → Nat
  | 0 => 0
  | b + 1 => stN P o D rate b + (if tb D b = true then zTo P o b rate (nS P) else 0)
theorem stN_le {P : Nat → Nat → Int32} (V : okP P) {o : Nat → Nat} {D rate : Nat} (hr : 0 < rate) (hr2 : rate < 100) : ∀ {n : Nat}, n ≤ 12 → stN P o D rate n ≤ 785070 * n := by
  intro n
  have s10 := V.s.1
  induction n with
  | zero => exact fun _ => Nat.le_refl _
  | succ n ih =>
    intro hn
    have h1 := ih (by omega)
    have h2 := zTo_le V (o := o) (show n < 12 by omega) hr hr2 (n := nS P)
    rw [stN]
    split <;> omega
def soS (P : Nat → Nat → Int32) (o bb : Nat → Nat) (n room rate D : Nat) (x : Option (Nat × Nat)) : Option (Nat × Nat) :=
  if ((match x with
    | none => true
    | some y => decide (stN P o (sbN bb D n) rate 12 < y.1)) && fiB P o (sbN bb D n) room) = true then some (stN P o (sbN bb D n) rate 12, sbN bb D n) else x
def soN (P : Nat → Nat → Int32) (o bb : Nat → Nat) (n room rate : Nat) : Nat → Option (Nat × Nat)
  | 0 => none
  | D + 1 => soS P o bb n room rate D (soN P o bb n room rate D)
