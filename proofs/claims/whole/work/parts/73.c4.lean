/-! ORDERS: the numbers alone -/
/-- the set of the first k STEPS -/
def obt (o : Nat → Nat) : Nat → Nat
  | 0 => 0
  | k + 1 => obt o k ||| 2 ^ o k
def ordV (P : Nat → Nat → Int32) (o : Nat → Nat) : Prop := ∀ k, k < nS P → o k < nS P ∧ mRdy P (o k) (obt o k) = true
theorem obt_tb {o : Nat → Nat} {j : Nat} : ∀ {k : Nat}, tb (obt o k) j = true ↔ ∃ i, i < k ∧ o i = j := by
  intro k
  induction k with
  | zero => rw [obt, tb_0]; simp
  | succ k ih =>
    rw [obt, tb_or, Bool.or_eq_true, ih]
    constructor
    · rintro (⟨i, h1, h2⟩ | h)
      · exact ⟨i, by omega, h2⟩
      · exact ⟨k, by omega, (of_decide_eq_true h).symm⟩
    · rintro ⟨i, h1, h2⟩
      by_cases e : i = k
      · subst e; exact Or.inr (decide_eq_true h2.symm)
      · exact Or.inl ⟨i, by omega, h2⟩
theorem obt_congr {o o' : Nat → Nat} : ∀ {k : Nat}, (∀ j, j < k → o j = o' j) → obt o k = obt o' k := by
  intro k
  induction k with
  | zero => intro _; rfl
  | succ k ih =>
    intro h
    rw [obt, obt, ih (fun j hj => h j (by omega)), h k (by omega)]
section ORD
variable {P : Nat → Nat → Int32} {o : Nat → Nat}
theorem obt_lt (O : ordV P o) : ∀ {k : Nat}, k ≤ nS P → obt o k < 2 ^ nS P := by
  intro k
  induction k with
  | zero => intro _; exact Nat.two_pow_pos _
  | succ k ih =>
    intro hk
    rw [obt]
    exact or_lt (ih (by omega)) (O k (by omega)).1
theorem ord_inj (O : ordV P o) {i j : Nat} (hj : j < nS P) (hi : i < nS P) (e : o i = o j) : i = j := by
  rcases Nat.lt_trichotomy i j with h | h | h
  · have h1 := rdy_bit (O j hj).2
    have h2 := obt_tb.mpr ⟨i, h, e⟩
    rw [h2] at h1
    cases h1
  · exact h
  · have h1 := rdy_bit (O i hi).2
    have h2 := obt_tb.mpr ⟨j, h, e.symm⟩
    rw [h2] at h1
    cases h1
theorem cntB_le {D : Nat} : ∀ {n : Nat}, cntB D n ≤ n := by
  intro n
  induction n with
  | zero => exact Nat.le_refl _
  | succ n ih =>
    rw [cntB]
    split <;> omega
theorem cntB_all {D : Nat} : ∀ {n : Nat}, cntB D n = n → ∀ j, j < n → tb D j = true := by
  intro n
  induction n with
  | zero => intro _ j hj; omega
  | succ n ih =>
    intro h j hj
    have := cntB_le (D := D) (n := n)
    rw [cntB] at h
    by_cases g : tb D n = true
    · by_cases e : j = n
      · rw [e]; exact g
      · rw [if_pos g] at h
        exact ih (by omega) j (by omega)
    · rw [if_neg g] at h
      omega
theorem obt_cnt (O : ordV P o) : ∀ {k : Nat}, k ≤ nS P → cntB (obt o k) (nS P) = k := by
  intro k
  induction k with
  | zero => intro _; exact cntB_0
  | succ k ih =>
    intro hk
    have h := O k (by omega)
    rw [obt, cntB_or (rdy_bit h.2), ih (by omega), if_pos h.1]
theorem ord_onto (O : ordV P o) {s : Nat} (hs : s < nS P) : ∃ k, k < nS P ∧ o k = s := by
  have h := cntB_all (obt_cnt O (Nat.le_refl _)) s hs
  exact obt_tb.mp h
/-- a STEP is done or comes at a later place -/
theorem obt_not (O : ordV P o) {k j : Nat} (hk : k ≤ nS P) (hj : j < nS P) : tb (obt o k) (o j) = decide (j < k) := by
  by_cases h : j < k
  · rw [decide_eq_true h]
    exact obt_tb.mpr ⟨j, h, rfl⟩
  · rw [decide_eq_false h]
    cases hq : tb (obt o k) (o j) with
    | false => rfl
    | true =>
      obtain ⟨i, h1, h2⟩ := obt_tb.mp hq
      have := ord_inj O hj (show i < nS P by omega) h2
      omega
theorem wr_uniq (W : okW P) {s b : Nat} (hs : s < nS P) (e : nWt P s = b) : mWr P b = some s := by
  rw [← e]
  exact (W.2.2 s hs).2.1
theorem wr_of (W : okW P) {b w : Nat} (hb : b < 12) (h : mWr P b = some w) : w < nS P ∧ nWt P w = b := by
  have h1 := mWr_lt h
  obtain ⟨_, _, h2, _⟩ := fst1_lt h
  have e := (W.1.w h1)
  rw [e.1, beq_iff_eq, eq_nI (by omega) (by omega)] at h2
  exact ⟨h1, h2⟩
theorem rd_there (W : okW P) {s b : Nat} (hs : s < nS P) (hb : b < 12) (h : mRdB P s b = true) : P 68 b ≠ 0 := by
  obtain ⟨k, hk, e⟩ := (mRdB_ex W.1 hs hb).mp h
  rw [← e]
  exact (W.2.2 s hs).2.2.2 k hk
/-- is there a reader that isn't done -/
theorem nsbs {b D : Nat} : sbs (rdM P b (nS P)) D = false ↔ ∃ s, s < nS P ∧ mRdB P s b = true ∧ tb D s = false := by
  constructor
  · intro h
    apply Classical.byContradiction
    intro q
    have : sbs (rdM P b (nS P)) D = true := by
      rw [sbs_iff]
      intro j hj
      rw [rdM_tb, Bool.and_eq_true] at hj
      cases hq : tb D j with
      | true => rfl
      | false => exact absurd ⟨j, of_decide_eq_true hj.1, hj.2, hq⟩ q
    rw [this] at h
    cases h
  · rintro ⟨s, h1, h2, h3⟩
    cases hq : sbs (rdM P b (nS P)) D with
    | false => rfl
    | true =>
      have := sbs_iff.mp hq s (by rw [rdM_tb, Bool.and_eq_true]; exact ⟨decide_eq_true h1, h2⟩)
      rw [h3] at this
      cases this
theorem mNd_sbs {b D : Nat} : mNd P b D = !sbs (rdM P b (nS P)) D := by
  unfold mNd
  cases hq : sbs (rdM P b (nS P)) D with
  | false =>
    obtain ⟨s, h1, h2, h3⟩ := nsbs.mp hq
    exact fst1_is (i := s) (Nat.zero_le _) (by omega) (by rw [h2, h3]; rfl)
  | true =>
    cases hr : (fst1 (fun s => !tb D s && mRdB P s b) (nS P) 0) with
    | none => rfl
    | some s =>
      obtain ⟨_, h1, h2, _⟩ := fst1_lt hr
      rw [Bool.and_eq_true] at h2
      have : sbs (rdM P b (nS P)) D = false := nsbs.mpr ⟨s, by omega, h2.2, by
        have := h2.1
        cases hx : tb D s with
        | false => rfl
        | true => rw [hx] at this; cases this⟩
      rw [this] at hq
      cases hq
/-- what happens to a BUFFER at a place -/
def evB (P : Nat → Nat → Int32) (o : Nat → Nat) (b j : Nat) : Bool := mRdB P (o j) b || (P 72 b != 0 && j + 1 == nS P) || nWt P (o j) == b
theorem lf_ge {b k : Nat} : ∀ {n : Nat}, (∃ t, (lf P o b n).2 = some t ∧ k ≤ t) ↔ ∃ j, k ≤ j ∧ j < n ∧ evB P o b j = true := by
  intro n
  induction n with
  | zero =>
    constructor
    · rintro ⟨t, h, _⟩; cases h
    · rintro ⟨j, _, h, _⟩; omega
  | succ n ih =>
    have e : (lf P o b (n + 1)).2 = if evB P o b n = true then some n else (lf P o b n).2 := by
      rw [lf]
      simp only
      unfold evB
      by_cases h1 : (mRdB P (o n) b || (P 72 b != 0 && n + 1 == nS P)) = true
      · rw [if_pos h1, h1]; rfl
      · rw [if_neg h1]
        have h1' : (mRdB P (o n) b || (P 72 b != 0 && n + 1 == nS P)) = false := by
          cases hq : (mRdB P (o n) b || (P 72 b != 0 && n + 1 == nS P)) with
          | false => rfl
          | true => exact absurd hq h1
        rw [h1']
        by_cases h2 : nWt P (o n) = b
        · rw [if_pos h2, if_pos (by rw [Bool.false_or]; exact beq_iff_eq.mpr h2)]
        · rw [if_neg h2, if_neg (by rw [Bool.false_or]; exact fun q => h2 (beq_iff_eq.mp q))]
    rw [e]
    by_cases h1 : evB P o b n = true
    · rw [if_pos h1]
      constructor
      · rintro ⟨t, h, h2⟩
        cases h
        exact ⟨n, h2, by omega, h1⟩
      · rintro ⟨j, h2, h3, _⟩
        exact ⟨n, rfl, by omega⟩
    · rw [if_neg h1, ih]
      constructor
      · rintro ⟨j, h2, h3, h4⟩
        exact ⟨j, h2, by omega, h4⟩
      · rintro ⟨j, h2, h3, h4⟩
        have : j ≠ n := fun q => h1 (q ▸ h4)
        exact ⟨j, h2, by omega, h4⟩
theorem lf_fr (W : okW P) (O : ordV P o) {b kw : Nat} (hkw : kw < nS P) (hw : nWt P (o kw) = b) : ∀ {n : Nat}, n ≤ nS P → (lf P o b n).1 = if kw < n then kw else 0 := by
  intro n
  induction n with
  | zero => intro _; rfl
  | succ n ih =>
    intro hn
    rw [lf]
    simp only
    by_cases h1 : nWt P (o n) = b
    · have e1 := wr_uniq W (O n (by omega)).1 h1
      have e2 := wr_uniq W (O kw hkw).1 hw
      rw [e1] at e2
      have := ord_inj O (show kw < nS P by omega) (show n < nS P by omega) (Option.some.inj e2)
      rw [if_pos h1, if_pos (by omega)]
      exact this
    · rw [if_neg h1, ih (by omega)]
      have : n ≠ kw := fun q => h1 (q ▸ hw)
      by_cases h2 : kw < n
      · rw [if_pos h2, if_pos (by omega)]
      · rw [if_neg h2, if_neg (by omega)]
theorem lf_f0 (W : okW P) (O : ordV P o) {b : Nat} (hw : mWr P b = none) : ∀ {n : Nat}, n ≤ nS P → (lf P o b n).1 = 0 := by
  intro n
  induction n with
  | zero => intro _; rfl
  | succ n ih =>
    intro hn
    rw [lf]
    simp only
    rw [if_neg, ih (by omega)]
    intro q
    have := wr_uniq W (O n (by omega)).1 q
    rw [hw] at this
    cases this
/-- what is ALIVE at a place, by the STEPS that are done -/
theorem mAl_iff (W : okW P) (O : ordV P o) {b k : Nat} (hb : b < 12) (hk : k < nS P) : mAl P o b k = true ↔ (nWt P (o k) = b ∨ hbB P (obt o k) b = true) := by
  by_cases h0 : P 68 b = 0
  · have e1 : mAl P o b k = false := by
      unfold mAl ti lfE
      rw [if_pos h0]
    rw [e1]
    constructor
    · intro h; cases h
    · rintro (h | h)
      · exact absurd h0 (h ▸ (W.2.2 (o k) (O k hk).1).1)
      · exfalso
        unfold hbB at h
        rw [Bool.and_eq_true, Bool.or_eq_true] at h
        rcases h.2 with h2 | h2
        · have := ((W.2.1 b hb).1 h0).2
          rw [this] at h2
          cases h2
        · have h2 : sbs (rdM P b (nS P)) (obt o k) = false := by
            cases hq : sbs (rdM P b (nS P)) (obt o k) with
            | false => rfl
            | true => rw [hq] at h2; cases h2
          obtain ⟨s, s1, s2, _⟩ := nsbs.mp h2
          exact rd_there W s1 hb s2 h0
  · have e1 : mAl P o b k = true ↔ ((lf P o b (nS P)).1 ≤ k ∧ ∃ j, k ≤ j ∧ j < nS P ∧ evB P o b j = true) := by
      rw [← lf_ge]
      unfold mAl ti fr lfE
      rw [if_neg h0]
      cases (lf P o b (nS P)).2 with
      | none =>
        constructor
        · intro h; cases h
        · rintro ⟨_, t, h, _⟩; cases h
      | some t =>
        simp only
        rw [Bool.and_eq_true, decide_eq_true_iff, decide_eq_true_iff]
        constructor
        · rintro ⟨h1, h2⟩; exact ⟨h1, t, rfl, h2⟩
        · rintro ⟨h1, t', h2, h3⟩; cases h2; exact ⟨h1, h3⟩
    rw [e1]
    -- a reader that isn't done stands at a later place
    have rdr : (∃ j, k ≤ j ∧ j < nS P ∧ mRdB P (o j) b = true) ↔ sbs (rdM P b (nS P)) (obt o k) = false := by
      rw [nsbs]
      constructor
      · rintro ⟨j, h1, h2, h3⟩
        refine ⟨o j, (O j h2).1, h3, ?_⟩
        rw [obt_not O (by omega) h2, decide_eq_false (by omega)]
      · rintro ⟨s, h1, h2, h3⟩
        obtain ⟨j, j1, j2⟩ := ord_onto O h1
        subst j2
        rw [obt_not O (by omega) j1] at h3
        have h3 := of_decide_eq_false h3
        exact ⟨j, by omega, j1, h2⟩
    have nsb : (!sbs (rdM P b (nS P)) (obt o k)) = true ↔ sbs (rdM P b (nS P)) (obt o k) = false := by
      cases sbs (rdM P b (nS P)) (obt o k) <;> simp
    have ev : ∀ j, evB P o b j = true ↔ (mRdB P (o j) b = true ∨ (P 72 b ≠ 0 ∧ j + 1 = nS P)) ∨ nWt P (o j) = b := by
      intro j
      unfold evB
      rw [Bool.or_eq_true, Bool.or_eq_true, Bool.and_eq_true, beq_iff_eq, beq_iff_eq, bne_iff_ne]
    cases hw : mWr P b with
    | none =>
      rw [lf_f0 W O hw (Nat.le_refl _)]
      unfold hbB
      rw [hw]
      simp only [Bool.true_and]
      rw [Bool.or_eq_true, bne_iff_ne, nsb, ← rdr]
      have nw : ∀ j, j < nS P → nWt P (o j) ≠ b := by
        intro j hj q
        have := wr_uniq W (O j hj).1 q
        rw [hw] at this
        cases this
      constructor
      · rintro ⟨_, j, j1, j2, j3⟩
        rcases (ev j).mp j3 with (h | h) | h
        · exact Or.inr (Or.inr ⟨j, j1, j2, h⟩)
        · exact Or.inr (Or.inl h.1)
        · exact absurd h (nw j j2)
      · rintro (h | h | ⟨j, j1, j2, j3⟩)
        · exact absurd h (nw k hk)
        · exact ⟨Nat.zero_le _, nS P - 1, by omega, by omega, (ev _).mpr (Or.inl (Or.inr ⟨h, by omega⟩))⟩
        · exact ⟨Nat.zero_le _, j, j1, j2, (ev j).mpr (Or.inl (Or.inl j3))⟩
    | some w =>
      obtain ⟨w1, w2⟩ := wr_of W hb hw
      obtain ⟨kw, q1, q2⟩ := ord_onto O w1
      rw [← q2] at w2
      rw [lf_fr W O q1 w2 (Nat.le_refl _), if_pos q1]
      unfold hbB
      rw [hw, ← q2]
      simp only
      rw [obt_not O (by omega) q1, Bool.and_eq_true, Bool.or_eq_true, bne_iff_ne, nsb, ← rdr, decide_eq_true_iff]
      have nw : ∀ j, j < nS P → nWt P (o j) = b → j = kw := by
        intro j hj q
        have e1 := wr_uniq W (O j hj).1 q
        rw [hw, ← q2] at e1
        exact ord_inj O q1 hj (Option.some.inj e1).symm
      constructor
      · rintro ⟨h1, j, j1, j2, j3⟩
        by_cases e : kw = k
        · exact Or.inl (e ▸ w2)
        · refine Or.inr ⟨by omega, ?_⟩
          rcases (ev j).mp j3 with (h | h) | h
          · exact Or.inr ⟨j, j1, j2, h⟩
          · exact Or.inl h.1
          · have := nw j j2 h; omega
      · rintro (h | ⟨h1, h | ⟨j, j1, j2, j3⟩⟩)
        · have := nw k hk h
          exact ⟨by omega, k, Nat.le_refl _, hk, (ev k).mpr (Or.inr h)⟩
        · exact ⟨by omega, nS P - 1, by omega, by omega, (ev _).mpr (Or.inl (Or.inr ⟨h, by omega⟩))⟩
        · exact ⟨by omega, j, j1, j2, (ev j).mpr (Or.inl (Or.inl j3))⟩
/-- the written one isn't among those that are held from ahead -/
theorem hb_not {s D : Nat} (W : okW P) (hs : s < nS P) (hD : tb D s = false) : hbB P D (nWt P s) = false := by
  unfold hbB
  rw [(W.2.2 s hs).2.1]
  simp only [hD, Bool.false_and]
theorem sum_one {c1 c2 : Nat → Bool} {z f g : Nat → Nat} {w : Nat} (f0 : f 0 = 0) (g0 : g 0 = 0) (hf : ∀ b, f (b + 1) = f b + (if c1 b = true then z b else 0)) (hg : ∀ b, g (b + 1) = g b + (if c2 b = true then z b else 0)) (hc : ∀ b, b < 12 → (c1 b = true ↔ (w = b ∨ c2 b = true))) (hw : c2 w = false) : ∀ {n : Nat}, n ≤ 12 → f n = g n + (if w < n then z w else 0) := by
  intro n
  induction n with
  | zero => intro _; rw [f0, g0, if_neg (by omega)]
  | succ n ih =>
    intro hn
    rw [hf, hg, ih (by omega)]
    have h := hc n (by omega)
    by_cases e : w = n
    · subst e
      rw [if_pos (h.mpr (Or.inl rfl)), hw, if_neg (Nat.lt_irrefl w), if_neg (show ¬ (false = true) by decide), if_pos (Nat.lt_succ_self w)]
    · have e2 : (w < n + 1) = (w < n) := by apply propext; omega
      simp only [e2]
      by_cases g2 : c2 n = true
      · rw [if_pos (h.mpr (Or.inr g2)), if_pos g2]
        omega
      · have : ¬ c1 n = true := fun q => by
          rcases h.mp q with h | h
          · exact e h
          · exact g2 h
        rw [if_neg this, if_neg g2]
        omega
theorem zAl_eq (W : okW P) (O : ordV P o) {k : Nat} (hk : k < nS P) : zAl P o k 12 = zHd P (obt o k) 12 + zS P (nWt P (o k)) := by
  have h := O k hk
  have hw := (W.1.w h.1).2
  have := sum_one (c1 := fun b => mAl P o b k) (c2 := hbB P (obt o k)) (z := zS P) (f := zAl P o k) (g := zHd P (obt o k)) (w := nWt P (o k)) rfl rfl (fun b => rfl) (fun b => rfl) (fun b hb => mAl_iff W O hb hk) (hb_not W h.1 (rdy_bit h.2)) (Nat.le_refl 12)
  rw [this, if_pos hw]
theorem laB_iff (W : okW P) {s D b : Nat} (hs : s < nS P) (hb : b < 12) (hD : tb D s = false) : laB P s D b = true ↔ (nWt P s = b ∨ hbB P D b = true) := by
  unfold laB
  rw [mNd_sbs]
  by_cases h0 : P 68 b = 0
  · rw [h0]
    simp only [show ((0 : Int32) != 0) = false from rfl, Bool.false_and]
    constructor
    · intro h; cases h
    · rintro (h | h)
      · exact absurd h0 (h ▸ (W.2.2 s hs).1)
      · exfalso
        unfold hbB at h
        rw [Bool.and_eq_true, Bool.or_eq_true] at h
        rcases h.2 with h2 | h2
        · have := ((W.2.1 b hb).1 h0).2
          rw [this] at h2
          cases h2
        · have h2 : sbs (rdM P b (nS P)) D = false := by
            cases hq : sbs (rdM P b (nS P)) D with
            | false => rfl
            | true => rw [hq] at h2; cases h2
          obtain ⟨s, s1, s2, _⟩ := nsbs.mp h2
          exact rd_there W s1 hb s2 h0
  · have h0' : (P 68 b != 0) = true := bne_iff_ne.mpr h0
    have ew : wrB P b = mWr P b := if_neg h0
    rw [h0', ew, Bool.true_and]
    unfold hbB
    cases hw : mWr P b with
    | none =>
      have nw : nWt P s ≠ b := by
        intro q
        have := wr_uniq W hs q
        rw [hw] at this
        cases this
      simp only [cmB, Bool.true_and, show ((none : Option Nat) == some s) = false from rfl, Bool.or_false]
      rw [Bool.or_comm]
      constructor
      · exact Or.inr
      · rintro (h | h)
        · exact absurd h nw
        · exact h
    | some w =>
      obtain ⟨w1, w2⟩ := wr_of W hb hw
      by_cases e : w = s
      · subst e
        simp only [cmB, beq_self_eq_true, Bool.true_or, Bool.or_true, Bool.true_and]
        exact ⟨fun _ => Or.inl w2, fun _ => trivial⟩
      · have e1 : (w == s) = false := beq_eq_false_iff_ne.mpr e
        have e2 : ((some w : Option Nat) == some s) = false := by simpa using e
        simp only [cmB, e1, e2, Bool.false_or, Bool.or_false]
        rw [Bool.or_comm]
        constructor
        · exact Or.inr
        · rintro (h | h)
          · exfalso
            have := wr_uniq W hs h
            rw [hw] at this
            exact e (Option.some.inj this)
          · exact h
theorem zLa_eq (W : okW P) {s D : Nat} (hs : s < nS P) (hD : tb D s = false) : zLa P s D 12 = zHd P D 12 + zS P (nWt P s) := by
  have hw := (W.1.w hs).2
  have := sum_one (c1 := laB P s D) (c2 := hbB P D) (z := zS P) (f := zLa P s D) (g := zHd P D) (w := nWt P s) rfl rfl (fun b => rfl) (fun b => rfl) (fun b hb => laB_iff W hs hb hD) (hb_not W hs hD) (Nat.le_refl 12)
  rw [this, if_pos hw]
/-! the greatest one, of like ones the least -/
def isB (P : Nat → Nat → Int32) (c : Nat → Prop) (r : Option Nat) : Prop := match r with
  | none => ∀ b, b < 12 → ¬ c b
  | some x => x < 12 ∧ c x ∧ ∀ b, b < 12 → c b → zS P b < zS P x ∨ (zS P b = zS P x ∧ x ≤ b)
theorem isB_uniq {c c' : Nat → Prop} {r r' : Option Nat} (hc : ∀ b, b < 12 → (c b ↔ c' b)) (h : isB P c r) (h' : isB P c' r') : r = r' := by
  cases r with
  | none =>
    cases r' with
    | none => rfl
    | some y => exact absurd ((hc y h'.1).mpr h'.2.1) (h y h'.1)
  | some x =>
    cases r' with
    | none => exact absurd ((hc x h.1).mp h.2.1) (h' x h.1)
    | some y =>
      have a := h.2.2 y h'.1 ((hc y h'.1).mpr h'.2.1)
      have b := h'.2.2 x h.1 ((hc x h.1).mp h.2.1)
      have : x = y := by omega
      rw [this]
def bsG (P : Nat → Nat → Int32) (c : Nat → Bool) : Nat → Option Nat
  | 0 => none
  | b + 1 => if (c b && ovB P (bsG P c b) b) = true then some b else bsG P c b
theorem bsG_ok {c : Nat → Bool} : ∀ {n : Nat}, match bsG P c n with
    | none => ∀ b, b < n → c b = false
    | some x => x < n ∧ c x = true ∧ ∀ b, b < n → c b = true → zS P b < zS P x ∨ (zS P b = zS P x ∧ x ≤ b) := by
  intro n
  induction n with
  | zero => intro b hb; omega
  | succ n ih =>
    rw [bsG]
    cases hq : bsG P c n with
    | none =>
      rw [hq] at ih
      simp only at ih
      cases hc : c n with
      | false =>
        simp only [Bool.false_and, Bool.false_eq_true, if_false]
        intro b hb
        by_cases e : b = n
        · rw [e]; exact hc
        · exact ih b (by omega)
      | true =>
        simp only [ovB, Bool.true_and, if_true]
        refine ⟨by omega, hc, fun b hb hcb => ?_⟩
        by_cases e : b = n
        · rw [e]; exact Or.inr ⟨rfl, Nat.le_refl _⟩
        · rw [ih b (by omega)] at hcb; cases hcb
    | some x =>
      rw [hq] at ih
      obtain ⟨i1, i2, i3⟩ := ih
      cases hc : c n with
      | false =>
        simp only [Bool.false_and, Bool.false_eq_true, if_false]
        refine ⟨by omega, i2, fun b hb hcb => ?_⟩
        by_cases e : b = n
        · rw [e, hc] at hcb; cases hcb
        · exact i3 b (by omega) hcb
      | true =>
        simp only [ovB, Bool.true_and]
        by_cases h1 : zS P x < zS P n
        · simp only [decide_eq_true h1, if_true]
          refine ⟨by omega, hc, fun b hb hcb => ?_⟩
          by_cases e : b = n
          · rw [e]; exact Or.inr ⟨rfl, Nat.le_refl _⟩
          · rcases i3 b (by omega) hcb with h | h <;> exact Or.inl (by omega)
        · simp only [decide_eq_false h1, Bool.false_eq_true, if_false]
          refine ⟨by omega, i2, fun b hb hcb => ?_⟩
          by_cases e : b = n
          · rw [e]
            by_cases h2 : zS P n = zS P x
            · exact Or.inr ⟨h2, by omega⟩
            · exact Or.inl (by omega)
          · exact i3 b (by omega) hcb
theorem bsG_isB {c : Nat → Bool} : isB P (fun b => c b = true) (bsG P c 12) := by
  have h := bsG_ok (P := P) (c := c) (n := 12)
  cases hq : bsG P c 12 with
  | none =>
    rw [hq] at h
    intro b hb q
    rw [h b hb] at q
    cases q
  | some x =>
    rw [hq] at h
    exact h
theorem mOv_isB {k : Nat} : isB P (fun b => ovC P o k b = true) (mOv P o k) := by
  have e : ∀ n, mOvN P o k n = bsG P (ovC P o k) n := by
    intro n
    induction n with
    | zero => rfl
    | succ n ih => rw [mOvN, bsG, ih]
  unfold mOv
  rw [e]
  exact bsG_isB
theorem mOl_isB {s D : Nat} : isB P (fun b => olB P s D b = true) (mOlN P s D 12) := by
  have e : ∀ n, mOlN P s D n = bsG P (olB P s D) n := by
    intro n
    induction n with
    | zero => rfl
    | succ n ih => rw [mOlN, bsG, ih]
  rw [e]
  exact bsG_isB
theorem cOv_max {s D : Nat} : ∀ {k : Nat}, match cOv P s D k with
    | none => ∀ j, j < k → cvC P s D (nRd P s j) = false
    | some x => (∃ j, j < k ∧ nRd P s j = x) ∧ cvC P s D x = true ∧ ∀ j, j < k → cvC P s D (nRd P s j) = true → zS P (nRd P s j) < zS P x ∨ (zS P (nRd P s j) = zS P x ∧ x ≤ nRd P s j) := by
  intro k
  induction k with
  | zero => intro j hj; omega
  | succ k ih =>
    rw [cOv]
    cases hq : cOv P s D k with
    | none =>
      rw [hq] at ih
      simp only at ih
      cases hc : cvC P s D (nRd P s k) with
      | false =>
        simp only [Bool.false_and, Bool.false_eq_true, if_false]
        intro j hj
        by_cases e : j = k
        · rw [e]; exact hc
        · exact ih j (by omega)
      | true =>
        simp only [fvB, Bool.true_and, if_true]
        refine ⟨⟨k, by omega, rfl⟩, hc, fun j hj hcj => ?_⟩
        by_cases e : j = k
        · rw [e]; exact Or.inr ⟨rfl, Nat.le_refl _⟩
        · rw [ih j (by omega)] at hcj; cases hcj
    | some x =>
      rw [hq] at ih
      obtain ⟨⟨j0, j1, j2⟩, i2, i3⟩ := ih
      cases hc : cvC P s D (nRd P s k) with
      | false =>
        simp only [Bool.false_and, Bool.false_eq_true, if_false]
        refine ⟨⟨j0, by omega, j2⟩, i2, fun j hj hcj => ?_⟩
        by_cases e : j = k
        · rw [e, hc] at hcj; cases hcj
        · exact i3 j (by omega) hcj
      | true =>
        simp only [fvB, Bool.true_and]
        by_cases h1 : frB P (nRd P s k) x = true
        · have h1' : zS P x < zS P (nRd P s k) ∨ (zS P (nRd P s k) = zS P x ∧ nRd P s k < x) := by
            unfold frB at h1
            simpa using h1
          simp only [h1, if_true]
          refine ⟨⟨k, by omega, rfl⟩, hc, fun j hj hcj => ?_⟩
          by_cases e : j = k
          · rw [e]; exact Or.inr ⟨rfl, Nat.le_refl _⟩
          · have := i3 j (by omega) hcj
            omega
        · have h1' : ¬ (zS P x < zS P (nRd P s k) ∨ (zS P (nRd P s k) = zS P x ∧ nRd P s k < x)) := by
            unfold frB at h1
            simpa using h1
          simp only [h1, Bool.false_eq_true, if_false]
          refine ⟨⟨j0, by omega, j2⟩, i2, fun j hj hcj => ?_⟩
          by_cases e : j = k
          · rw [e]
            omega
          · exact i3 j (by omega) hcj
theorem cOv_isB (V : okP P) {s D : Nat} (hs : s < nS P) : isB P (fun b => kOver (P 73 s) = true ∧ mRdB P s b = true ∧ cvC P s D b = true) (cOvR P s D) := by
  have h := cOv_max (P := P) (s := s) (D := D) (k := nRc P s)
  unfold cOvR
  by_cases hk : kOver (P 73 s) = true
  · rw [if_pos hk]
    cases hq : cOv P s D (nRc P s) with
    | none =>
      rw [hq] at h
      rintro b hb ⟨_, h1, h2⟩
      obtain ⟨j, j1, j2⟩ := (mRdB_ex V hs hb).mp h1
      have := h j j1
      rw [j2, h2] at this
      cases this
    | some x =>
      rw [hq] at h
      obtain ⟨⟨j, j1, j2⟩, h2, h3⟩ := h
      have hx : x < 12 := by rw [← j2]; exact (V.r hs j1).2
      refine ⟨hx, ⟨hk, (mRdB_ex V hs hx).mpr ⟨j, j1, j2⟩, h2⟩, ?_⟩
      rintro b hb ⟨_, q1, q2⟩
      obtain ⟨i, i1, i2⟩ := (mRdB_ex V hs hb).mp q1
      have := h3 i i1
      rw [i2] at this
      exact this q2
  · rw [if_neg hk]
    rintro b hb ⟨h1, _⟩
    exact hk h1
theorem ov_l (W : okW P) {s D : Nat} (hs : s < nS P) : mOlN P s D 12 = cOvR P s D := by
  refine isB_uniq (fun b hb => ?_) mOl_isB (cOv_isB W.1 hs)
  unfold olB cvC
  rw [mNd_sbs, Bool.not_not]
  constructor
  · intro h
    simp only [Bool.and_eq_true] at h
    exact ⟨h.2.1, h.2.2.1, by simp only [Bool.and_eq_true]; exact ⟨h.2.2.2.2, h.2.2.2.1⟩⟩
  · rintro ⟨h1, h2, h3⟩
    have h0 : (P 68 b != 0) = true := bne_iff_ne.mpr (rd_there W hs hb h2)
    simp only [Bool.and_eq_true] at h3 ⊢
    exact ⟨h0, h1, h2, h3.2, h3.1⟩
theorem ov_o (W : okW P) (O : ordV P o) {k : Nat} (hk : k < nS P) : mOv P o k = cOvR P (o k) (obt o k) := by
  have hs := (O k hk).1
  refine isB_uniq (fun b hb => ?_) mOv_isB (cOv_isB W.1 hs)
  unfold ovC cvC
  have key : mRdB P (o k) b = true → (P 72 b == 0) = true → ((ti P o b == some k) = true ↔ sbs (rdM P b (nS P)) (obt o k ||| 2 ^ o k) = true) := by
    intro hr hz
    have hz : P 72 b = 0 := eq_of_beq hz
    have h0 := rd_there W hs hb hr
    have ek : evB P o b k = true := by unfold evB; rw [hr]; rfl
    have et : ti P o b = (lf P o b (nS P)).2 := by unfold ti lfE; rw [if_neg h0]
    have ge : ∀ j, (∃ t, (lf P o b (nS P)).2 = some t ∧ j ≤ t) ↔ ∃ i, j ≤ i ∧ i < nS P ∧ evB P o b i = true := fun j => lf_ge
    obtain ⟨t, t1, t2⟩ := (ge k).mpr ⟨k, Nat.le_refl _, hk, ek⟩
    rw [et, t1]
    have e1 : ((some t : Option Nat) == some k) = true ↔ ¬ ∃ i, k + 1 ≤ i ∧ i < nS P ∧ evB P o b i = true := by
      rw [← ge (k + 1), t1]
      constructor
      · intro h
        have h : t = k := Option.some.inj (eq_of_beq h)
        rintro ⟨t', q1, q2⟩
        cases q1
        omega
      · intro h
        have : ¬ k + 1 ≤ t := fun q => h ⟨t, rfl, q⟩
        have : t = k := by omega
        rw [this]
        exact beq_self_eq_true _
    rw [e1]
    have e2 : obt o k ||| 2 ^ o k = obt o (k + 1) := rfl
    rw [e2]
    constructor
    · intro h
      cases hq : sbs (rdM P b (nS P)) (obt o (k + 1)) with
      | true => rfl
      | false =>
        exfalso
        obtain ⟨s, s1, s2, s3⟩ := nsbs.mp hq
        obtain ⟨j, j1, j2⟩ := ord_onto O s1
        subst j2
        rw [obt_not O (by omega) j1] at s3
        have s3 := of_decide_eq_false s3
        exact h ⟨j, by omega, j1, by unfold evB; rw [s2]; rfl⟩
    · rintro h ⟨i, i1, i2, i3⟩
      unfold evB at i3
      rw [Bool.or_eq_true, Bool.or_eq_true, Bool.and_eq_true, bne_iff_ne, beq_iff_eq, beq_iff_eq] at i3
      rcases i3 with (i3 | i3) | i3
      · have : sbs (rdM P b (nS P)) (obt o (k + 1)) = false := nsbs.mpr ⟨o i, (O i i2).1, i3, by rw [obt_not O (by omega) i2, decide_eq_false (by omega)]⟩
        rw [this] at h
        cases h
      · exact i3.1 hz
      · -- who READS it comes behind the one that WRITES it
        have hw := wr_uniq W (O i i2).1 i3
        have h1 := rdy_rd W.1 hs hb (O k hk).2 hr hw
        rw [obt_not O (by omega) i2] at h1
        have := of_decide_eq_true h1
        omega
  constructor
  · intro h
    simp only [Bool.and_eq_true] at h
    exact ⟨h.1, h.2.1, by simp only [Bool.and_eq_true]; exact ⟨(key h.2.1 h.2.2.2).mp h.2.2.1, h.2.2.2⟩⟩
  · rintro ⟨h1, h2, h3⟩
    simp only [Bool.and_eq_true] at h3 ⊢
    exact ⟨h1, h2, (key h2 h3.2).mpr h3.1, h3.2⟩
theorem ls_min {s : Nat} {t : Option Nat} : lsN P s t = (match t with | none => 0 | some x => if zS P x < zS P (nWt P s) then zS P x else zS P (nWt P s)) := by
  unfold lsN
  cases t with
  | none => rfl
  | some x =>
    simp only
    split <;> split <;> omega
/-- LOAD at a place is LOAD behind the set of the STEPS ahead -/
theorem zLd_cl (W : okW P) (O : ordV P o) {k : Nat} (hk : k < nS P) : zLd P o k = clD P (o k) (obt o k) (zHd P (obt o k) 12) := by
  unfold zLd clD
  rw [zAl_eq W O hk, ov_o W O hk, ls_min, Nat.add_assoc]
  rfl
theorem zLo_cl (W : okW P) {s D : Nat} (hs : s < nS P) (hD : tb D s = false) : zLo P s D = clD P s D (zHd P D 12) := by
  unfold zLo clD
  rw [zLa_eq W hs hD, ov_l W hs, ls_min, Nat.add_assoc]
  rfl
end ORD
