/-! READING A TEXT: the numbers alone -/
/-- the byte at a place -/
def hr (c : Nat → Nat) (T a : Nat) : Option Nat := if a < T then some (c a) else none
def inR (t : Option Nat) (lo hi : Nat) : Bool := match t with
  | none => false
  | some x => decide (lo ≤ x) && decide (x ≤ hi)
theorem inR_of {c : Nat → Nat} {T a lo hi : Nat} (h : inR (hr c T a) lo hi = true) : a < T ∧ lo ≤ c a ∧ c a ≤ hi ∧ hr c T a = some (c a) := by
  unfold hr at h ⊢
  by_cases h1 : a < T
  · rw [if_pos h1] at h ⊢
    have h := Bool.and_eq_true_iff.mp h
    exact ⟨h1, of_decide_eq_true h.1, of_decide_eq_true h.2, rfl⟩
  · rw [if_neg h1] at h
    cases h
theorem hr_some {c : Nat → Nat} {T a x : Nat} (h : hr c T a = some x) : a < T ∧ c a = x := by
  unfold hr at h
  by_cases h1 : a < T
  · rw [if_pos h1] at h
    cases h
    exact ⟨h1, rfl⟩
  · rw [if_neg h1] at h
    cases h
/-- one or two digits -/
def nm2 (c : Nat → Nat) (T a : Nat) : Option Nat × Nat := if inR (hr c T a) 48 57 = true then (if inR (hr c T (a + 1)) 48 57 = true then (some (10 * (c a - 48) + (c (a + 1) - 48)), a + 2) else (some (c a - 48), a + 1)) else (none, a)
theorem nm2_ok {c : Nat → Nat} {T a : Nat} (ha : a ≤ T) : (nm2 c T a).2 ≤ T ∧ a ≤ (nm2 c T a).2 ∧ ∀ v, (nm2 c T a).1 = some v → v < 100 := by
  unfold nm2
  rcases Bool.eq_false_or_eq_true (inR (hr c T a) 48 57) with g1 | g1
  · obtain ⟨h1, h2, h3, _⟩ := inR_of g1
    rw [if_pos g1]
    rcases Bool.eq_false_or_eq_true (inR (hr c T (a + 1)) 48 57) with g2 | g2
    · obtain ⟨k1, k2, k3, _⟩ := inR_of g2
      rw [if_pos g2]
      exact ⟨by simp only; omega, by simp only; omega, fun v e => by cases e; omega⟩
    · rw [if_neg (by rw [g2]; decide)]
      exact ⟨by simp only; omega, by simp only; omega, fun v e => by cases e; omega⟩
  · rw [if_neg (by rw [g1]; decide)]
    exact ⟨ha, Nat.le_refl _, fun v e => by cases e⟩
def ltO (c : Nat → Nat) (T a : Nat) : Option Nat := if inR (hr c T a) 65 68 = true then some (c a - 65) else none
def ltA (c : Nat → Nat) (T a : Nat) : Nat := if inR (hr c T a) 65 68 = true then a + 1 else a
theorem ltA_ok {c : Nat → Nat} {T a : Nat} (ha : a ≤ T) : ltA c T a ≤ T ∧ a ≤ ltA c T a := by
  unfold ltA
  rcases Bool.eq_false_or_eq_true (inR (hr c T a) 65 68) with g1 | g1
  · obtain ⟨h1, _⟩ := inR_of g1
    rw [if_pos g1]
    omega
  · rw [if_neg (by rw [g1]; decide)]
    omega
theorem ltO_ok {c : Nat → Nat} {T a : Nat} : ∀ j, ltO c T a = some j → j < 4 := by
  intro j e
  unfold ltO at e
  rcases Bool.eq_false_or_eq_true (inR (hr c T a) 65 68) with g1 | g1
  · obtain ⟨h1, h2, h3, _⟩ := inR_of g1
    rw [if_pos g1] at e
    cases e
    omega
  · rw [if_neg (by rw [g1]; decide)] at e
    cases e
def upA (A : Nat → Nat → Int32) (o k : Nat) (v : Int32) : Nat → Nat → Int32 := fun o' => if o' = o then upd (A o) k v else A o'
theorem upA_eq {A : Nat → Nat → Int32} {o k : Nat} {v : Int32} : upA A o k v o = upd (A o) k v := if_pos rfl
theorem upA_ne {A : Nat → Nat → Int32} {o o' k : Nat} {v : Int32} (h : o' ≠ o) : upA A o k v o' = A o' := if_neg h
theorem upA_at {A : Nat → Nat → Int32} {o k : Nat} {v : Int32} : upA A o k v o k = v := by rw [upA_eq, upd_eq]
theorem upA_nk {A : Nat → Nat → Int32} {o k k' : Nat} {v : Int32} (h : k' ≠ k) : upA A o k v o k' = A o k' := by rw [upA_eq, upd_ne h]
theorem upA_upA {A : Nat → Nat → Int32} {o k : Nat} {v w : Int32} : upA (upA A o k v) o k w = upA A o k w := by
  funext o'
  by_cases e : o' = o
  · subst e
    rw [upA_eq, upA_eq, upA_eq, upd_upd]
  · rw [upA_ne e, upA_ne e, upA_ne e]
/-- SIZE of a BUFFER: is it told well, where it ends, what is told -/
def rsN (c : Nat → Nat) (T b : Nat) : Nat → Nat → Nat → (Nat → Nat → Int32) → Bool × Nat × (Nat → Nat → Int32)
  | 0, _, a, A => (false, a, A)
  | m + 1, n, a, A => match (nm2 c T a).1 with
    | none => (false, (nm2 c T a).2, A)
    | some v => if (hr c T (ltA c T (nm2 c T a).2) == some 43) = true then rsN c T b m (n + 1) (ltA c T (nm2 c T a).2 + 1) (upA (upA A 70 (4 * b + n) (nI v)) 71 (4 * b + n) (oI (ltO c T (nm2 c T a).2))) else (true, ltA c T (nm2 c T a).2, upA (upA (upA (upA (upA A 70 (4 * b + n) (nI v)) 71 (4 * b + n) (oI (ltO c T (nm2 c T a).2))) 69 b (nI (n + 1))) 68 b (nI 1)) 72 b (nI 0))
theorem rsN_le {c : Nat → Nat} {T b : Nat} : ∀ {m n a : Nat} {A : Nat → Nat → Int32}, a ≤ T → (rsN c T b m n a A).2.1 ≤ T ∧ a ≤ (rsN c T b m n a A).2.1 := by
  intro m
  induction m with
  | zero => intro n a A ha; exact ⟨ha, Nat.le_refl _⟩
  | succ m ih =>
    intro n a A ha
    obtain ⟨h1, h2, h3⟩ := nm2_ok (c := c) ha
    obtain ⟨k1, k2⟩ := ltA_ok (c := c) h1
    rw [rsN]
    cases hq : (nm2 c T a).1 with
    | none => exact ⟨h1, h2⟩
    | some v =>
      simp only
      by_cases g : (hr c T (ltA c T (nm2 c T a).2) == some 43) = true
      · have := (hr_some (eq_of_beq g)).1
        rw [if_pos g]
        have := ih (n := n + 1) (a := ltA c T (nm2 c T a).2 + 1) (A := upA (upA A 70 (4 * b + n) (nI v)) 71 (4 * b + n) (oI (ltO c T (nm2 c T a).2))) (by omega)
        omega
      · rw [if_neg g]
        exact ⟨k1, by simp only; omega⟩
def rdN (A : Nat → Nat → Int32) (s n b : Nat) : Bool := (fst1 (fun k => A 77 (4 * s + k) == nI b) n 0).isSome
/-- what a STEP READS: how many, where they end -/
def rrN (c : Nat → Nat) (T s : Nat) : Nat → Nat → Nat → (Nat → Nat → Int32) → Nat × Nat × (Nat → Nat → Int32)
  | 0, n, a, A => (n, a, A)
  | m + 1, n, a, A => if (inR (hr c T a) 97 108 && (A 68 (c a - 97) != 0 && !rdN A s n (c a - 97))) = true then rrN c T s m (n + 1) (a + 1) (upA A 77 (4 * s + n) (nI (c a - 97))) else (n, a, A)
theorem rrN_le {c : Nat → Nat} {T s : Nat} : ∀ {m n a : Nat} {A : Nat → Nat → Int32}, a ≤ T → (rrN c T s m n a A).2.1 ≤ T ∧ a ≤ (rrN c T s m n a A).2.1 ∧ n ≤ (rrN c T s m n a A).1 ∧ (rrN c T s m n a A).1 ≤ n + m := by
  intro m
  induction m with
  | zero => intro n a A ha; exact ⟨ha, Nat.le_refl _, Nat.le_refl _, Nat.le_refl _⟩
  | succ m ih =>
    intro n a A ha
    rw [rrN]
    by_cases g : (inR (hr c T a) 97 108 && (A 68 (c a - 97) != 0 && !rdN A s n (c a - 97))) = true
    · rw [if_pos g]
      have := (inR_of (Bool.and_eq_true_iff.mp g).1).1
      have := ih (n := n + 1) (a := a + 1) (A := upA A 77 (4 * s + n) (nI (c a - 97))) (by omega)
      omega
    · rw [if_neg g]
      exact ⟨ha, Nat.le_refl _, Nat.le_refl _, Nat.le_add_right _ _⟩
/-- a STEP from its > on -/
def stW (c : Nat → Nat) (T s n a : Nat) (A : Nat → Nat → Int32) : Bool × Nat × (Nat → Nat → Int32) :=
  if (hr c T a == some 62) = true then (if (inR (hr c T (a + 1)) 97 108 && (A 68 (c (a + 1) - 97) != 0 && (!(mWr A (c (a + 1) - 97)).isSome && !rdN A s n (c (a + 1) - 97)))) = true then ((nm2 c T (a + 2)).1.isSome, (nm2 c T (a + 2)).2, if (nm2 c T (a + 2)).1.isSome = true then upA (upA (upA A 75 s (nI (c (a + 1) - 97))) 74 s (oI (nm2 c T (a + 2)).1)) 65 4 (nI (s + 1)) else upA (upA A 75 s (nI (c (a + 1) - 97))) 74 s (oI (nm2 c T (a + 2)).1)) else (false, a + 1, A)) else (false, a, A)
theorem stW_le {c : Nat → Nat} {T s n a : Nat} {A : Nat → Nat → Int32} (ha : a ≤ T) : (stW c T s n a A).2.1 ≤ T ∧ a ≤ (stW c T s n a A).2.1 := by
  unfold stW
  by_cases g : (hr c T a == some 62) = true
  · have := (hr_some (eq_of_beq g)).1
    rw [if_pos g]
    by_cases g2 : (inR (hr c T (a + 1)) 97 108 && (A 68 (c (a + 1) - 97) != 0 && (!(mWr A (c (a + 1) - 97)).isSome && !rdN A s n (c (a + 1) - 97)))) = true
    · rw [if_pos g2]
      have := (inR_of (Bool.and_eq_true_iff.mp g2).1).1
      have := nm2_ok (c := c) (T := T) (a := a + 2) (by omega)
      simp only
      omega
    · rw [if_neg g2]
      simp only
      omega
  · rw [if_neg g]
    exact ⟨ha, Nat.le_refl _⟩
def stA (c : Nat → Nat) (T a : Nat) (A : Nat → Nat → Int32) : Nat × Nat × (Nat → Nat → Int32) := rrN c T (nS A) 4 0 (a + 1) (upA A 73 (nS A) (nI (c a - 48)))
/-- a STEP from its digit on -/
def stp (c : Nat → Nat) (T a : Nat) (A : Nat → Nat → Int32) : Bool × Nat × (Nat → Nat → Int32) := if nS A = 10 then (false, a, A) else stW c T (nS A) (stA c T a A).1 (stA c T a A).2.1 (upA (stA c T a A).2.2 76 (nS A) (nI (stA c T a A).1))
theorem stp_le {c : Nat → Nat} {T a : Nat} {A : Nat → Nat → Int32} (ha : a < T) : (stp c T a A).2.1 ≤ T ∧ a ≤ (stp c T a A).2.1 ∧ ((stp c T a A).1 = true → a < (stp c T a A).2.1) := by
  unfold stp
  by_cases g : nS A = 10
  · rw [if_pos g]
    exact ⟨by simp only; omega, Nat.le_refl _, fun h => by cases h⟩
  · rw [if_neg g]
    have h1 := rrN_le (c := c) (T := T) (s := nS A) (m := 4) (n := 0) (a := a + 1) (A := upA A 73 (nS A) (nI (c a - 48))) ha
    have h2 := stW_le (c := c) (s := nS A) (n := (stA c T a A).1) (A := upA (stA c T a A).2.2 76 (nS A) (nI (stA c T a A).1)) h1.1
    refine ⟨h2.1, ?_, fun _ => ?_⟩
    · have h3 := h2.2
      have h4 := h1.2.1
      exact Nat.le_trans (Nat.le_of_succ_le h4) h3
    · exact Nat.lt_of_lt_of_le h1.2.1 h2.2
/-- the ; behind a STATEMENT -/
def fnE (c : Nat → Nat) (T : Nat) (r : Bool × Nat × (Nat → Nat → Int32)) : Bool × Nat × (Nat → Nat → Int32) := if (r.1 && (hr c T r.2.1 == some 59)) = true then (true, r.2.1 + 1, r.2.2) else (false, r.2.1, r.2.2)
theorem fnE_le {c : Nat → Nat} {T a : Nat} {r : Bool × Nat × (Nat → Nat → Int32)} (h1 : r.2.1 ≤ T) (h2 : a ≤ r.2.1) : (fnE c T r).2.1 ≤ T ∧ a ≤ (fnE c T r).2.1 ∧ ((fnE c T r).1 = true → a < (fnE c T r).2.1) := by
  unfold fnE
  by_cases g : (r.1 && (hr c T r.2.1 == some 59)) = true
  · rw [if_pos g]
    have := (hr_some (eq_of_beq (Bool.and_eq_true_iff.mp g).2)).1
    exact ⟨this, by simp only; omega, fun _ => by simp only; omega⟩
  · rw [if_neg g]
    exact ⟨h1, h2, fun h => by cases h⟩
def wtA (c : Nat → Nat) (T a : Nat) (A : Nat → Nat → Int32) (b : Nat) : Bool × Nat × (Nat → Nat → Int32) := (hr c T a == some 33, if (hr c T a == some 33) = true then a + 1 else a, upA A 72 b (zB (hr c T a == some 33)))
/-- a STATEMENT -/
def one (c : Nat → Nat) (T a : Nat) (A : Nat → Nat → Int32) : Bool × Nat × (Nat → Nat → Int32) :=
  if inR (hr c T a) 48 53 = true then fnE c T (stp c T a A)
  else if inR (hr c T a) 97 108 = true then (if A 68 (c a - 97) = 0 then (if (hr c T (a + 1) == some 61) = true then fnE c T (rsN c T (c a - 97) 4 0 (a + 2) A) else (false, a + 1, A)) else (if A 72 (c a - 97) = 0 then fnE c T (wtA c T (a + 1) A (c a - 97)) else (false, a, A)))
  else (false, a, A)
theorem one_le {c : Nat → Nat} {T a : Nat} {A : Nat → Nat → Int32} (ha : a ≤ T) : (one c T a A).2.1 ≤ T ∧ a ≤ (one c T a A).2.1 ∧ ((one c T a A).1 = true → a < (one c T a A).2.1) := by
  unfold one
  by_cases g1 : inR (hr c T a) 48 53 = true
  · rw [if_pos g1]
    have h := stp_le (c := c) (A := A) (inR_of g1).1
    exact fnE_le h.1 h.2.1
  · rw [if_neg g1]
    by_cases g2 : inR (hr c T a) 97 108 = true
    · rw [if_pos g2]
      have h0 := (inR_of g2).1
      by_cases g3 : A 68 (c a - 97) = 0
      · rw [if_pos g3]
        by_cases g4 : (hr c T (a + 1) == some 61) = true
        · rw [if_pos g4]
          have := (hr_some (eq_of_beq g4)).1
          have h := rsN_le (c := c) (b := c a - 97) (m := 4) (n := 0) (A := A) (show a + 2 ≤ T by omega)
          exact fnE_le h.1 (by omega)
        · rw [if_neg g4]
          exact ⟨h0, by simp only; omega, fun h => by cases h⟩
      · rw [if_neg g3]
        by_cases g4 : A 72 (c a - 97) = 0
        · rw [if_pos g4]
          refine fnE_le ?_ ?_
          · unfold wtA
            simp only
            by_cases g5 : (hr c T (a + 1) == some 33) = true
            · have := (hr_some (eq_of_beq g5)).1
              rw [if_pos g5]
              omega
            · rw [if_neg g5]
              omega
          · unfold wtA
            simp only
            split <;> omega
        · rw [if_neg g4]
          exact ⟨ha, Nat.le_refl _, fun h => by cases h⟩
    · rw [if_neg g2]
      exact ⟨ha, Nat.le_refl _, fun h => by cases h⟩
/-- a whole text -/
def prg (c : Nat → Nat) (T : Nat) : Nat → Nat → (Nat → Nat → Int32) → Bool × Nat × (Nat → Nat → Int32)
  | 0, a, A => (true, a, A)
  | f + 1, a, A => if a < T then (if (one c T a A).1 = true then prg c T f (one c T a A).2.1 (one c T a A).2.2 else (false, (one c T a A).2.1, (one c T a A).2.2)) else (true, a, A)
theorem prg_le {c : Nat → Nat} {T : Nat} : ∀ {f a : Nat} {A : Nat → Nat → Int32}, a ≤ T → (prg c T f a A).2.1 ≤ T := by
  intro f
  induction f with
  | zero => intro a A ha; exact ha
  | succ f ih =>
    intro a A ha
    have h := one_le (c := c) (A := A) ha
    rw [prg]
    split
    · split
      · exact ih h.1
      · exact h.1
    · exact ha
