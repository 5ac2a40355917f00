/-! THE REFERENCE: HEIGHT, all rows -/
def gf (r : List Nat) : Nat → Nat := fun k => r.getD k 0
/-- rows one behind the other, as nextRow goes -/
def chn (n : Nat) : List (List Nat) → Bool
  | [] => false
  | r :: l => (List.range n).all (fun k => r.contains k && decide (gf r k < n)) && (r.length == n && (match l with
    | [] => (nxR (gf r) n).isNone
    | r' :: _ => (match nxR (gf r) n with
      | none => false
      | some f' => (List.range n).all (fun k => f' k == gf r' k)) && chn n l))
/-- all rows of the first n numbers, the least first -/
def prms : Nat → List Nat → List (List Nat)
  | 0, _ => [[]]
  | m + 1, av => (av.map (fun i => (prms m (av.filter (fun j => j != i))).map (fun r => i :: r))).flatten
def rws (n : Nat) : List (List Nat) := prms n (List.range n)
theorem chn_rws : ∀ n, n ≤ 6 → chn n (rws n) = true := by
  intro n hn
  rcases (show n = 0 ∨ n = 1 ∨ n = 2 ∨ n = 3 ∨ n = 4 ∨ n = 5 ∨ n = 6 by omega) with rfl | rfl | rfl | rfl | rfl | rfl | rfl
  · decide +kernel
  · decide +kernel
  · decide +kernel
  · decide +kernel
  · decide +kernel
  · decide +kernel
  · decide +kernel
