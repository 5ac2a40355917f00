/-! THE REFERENCE: fits, sendOut -/
/-- what stands idle of a set at a place -/
def zOt (P : Nat → Nat → Int32) (o : Nat → Nat) (D k : Nat) : Nat → Nat
  | 0 => 0
  | b + 1 => zOt P o D k b + (if (tb D b && ioB P o b k) = true then zS P b else 0)
theorem ioB_al {P : Nat → Nat → Int32} {o : Nat → Nat} {b k : Nat} (h : ioB P o b k = true) : mAl P o b k = true := (Bool.and_eq_true_iff.mp h).1
/-- is LOAD small enough at a place -/
def ftB (P : Nat → Nat → Int32) (o : Nat → Nat) (D room k : Nat) : Bool := decide (zLd P o k ≤ room + zOt P o D k 12)
def fiB (P : Nat → Nat → Int32) (o : Nat → Nat) (D room : Nat) : Bool := (fst1 (fun k => !ftB P o D room k) (nS P) 0).isNone
theorem zOt_le {P : Nat → Nat → Int32} (V : okP P) {o : Nat → Nat} {D k : Nat} : ∀ {n : Nat}, n ≤ 12 → zOt P o D k n ≤ 39204 * n := by
  intro n
  induction n with
  | zero => exact fun _ => Nat.le_refl _
  | succ n ih =>
    intro hn
    have := ih (by omega)
    have := (zS_ok V (show n < 12 by omega)).2
    rw [zOt]
    split <;> omega
theorem sub_nI {a b : Nat} (ha : a < 2 ^ 30) (hb : b < 2 ^ 30) : (nI a - nI b).toInt = (a : Int) - b := by
  rw [Int32.toInt_sub, nI_toInt (by omega), nI_toInt (by omega)]
  exact Int.bmod_eq_of_le_mul_two (by omega) (by omega)
theorem sub_sub_nI {a b c : Nat} : nI a - nI b - nI c = nI a - nI (b + c) := by rw [Int32.sub_sub, nI_add]
theorem lt_sub_nI {r a b : Nat} (hr : r < 2 ^ 30) (ha : a < 2 ^ 30) (hb : b < 2 ^ 30) : (nI r < nI a - nI b) = (r + b < a) := by
  apply propext
  rw [Int32.lt_iff_toInt_lt, sub_nI ha hb, nI_toInt (by omega)]
  omega
theorem sub_0_nI {a : Nat} : nI a - nI 0 = nI a := pk_sub (Nat.zero_le a)
