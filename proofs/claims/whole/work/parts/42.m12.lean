/-! THE REFERENCE: how a row lies -/
def meetB (a sa b sb : Nat) : Bool := decide (0 < sa) && (decide (0 < sb) && (decide (a < b + sb) && decide (b < a + sa)))
theorem meetB_iff {a sa b sb : Nat} : meetB a sa b sb = true ↔ 0 < sa ∧ 0 < sb ∧ a < b + sb ∧ b < a + sa := by
  unfold meetB
  simp only [Bool.and_eq_true, decide_eq_true_eq]
/-- have two BUFFERS a place at which both are ALIVE -/
def shB (P : Nat → Nat → Int32) (o : Nat → Nat) (a b : Nat) : Bool := (fst1 (fun k => mAl P o a k && mAl P o b k) (nS P) 0).isSome
/-- one pass over the first j that lie -/
def psF (S : Nat → Bool) (z : Nat) (L Z : Nat → Nat) (x : Nat) : Nat → Nat
  | 0 => x
  | j + 1 => if (S j && meetB (psF S z L Z x j) z (L j) (Z j)) = true then L j + Z j else psF S z L Z x j
def vld (S : Nat → Bool) (z : Nat) (L Z : Nat → Nat) (n x : Nat) : Bool := (fst1 (fun j => S j && meetB x z (L j) (Z j)) n 0).isNone
theorem vld_iff {S : Nat → Bool} {z : Nat} {L Z : Nat → Nat} {n x : Nat} : vld S z L Z n x = true ↔ ∀ j, j < n → (S j && meetB x z (L j) (Z j)) = false := by
  unfold vld
  rw [Option.isNone_iff_eq_none, fst1_none]
  exact ⟨fun h j hj => h j (Nat.zero_le _) (by omega), fun h j _ hj => h j (by omega)⟩
theorem psF_ge {S : Nat → Bool} {z : Nat} {L Z : Nat → Nat} {x : Nat} : ∀ {j : Nat}, psF S z L Z x j ≤ psF S z L Z x (j + 1) ∧ x ≤ psF S z L Z x j := by
  have h1 : ∀ j, psF S z L Z x j ≤ psF S z L Z x (j + 1) := by
    intro j
    rw [psF]
    split
    · rename_i hc
      have := (meetB_iff.mp (Bool.and_eq_true_iff.mp hc).2).2.2.1
      omega
    · exact Nat.le_refl _
  intro j
  refine ⟨h1 j, ?_⟩
  induction j with
  | zero => exact Nat.le_refl _
  | succ j ih => exact Nat.le_trans ih (h1 j)
theorem psF_le {S : Nat → Bool} {z : Nat} {L Z : Nat → Nat} {n x y : Nat} (hy : vld S z L Z n y = true) (hx : x ≤ y) : ∀ {j : Nat}, j ≤ n → psF S z L Z x j ≤ y := by
  intro j
  induction j with
  | zero => exact fun _ => hx
  | succ j ih =>
    intro hj
    have h1 := ih (by omega)
    rw [psF]
    split
    · rename_i hc
      obtain ⟨c1, c2⟩ := Bool.and_eq_true_iff.mp hc
      obtain ⟨m1, m2, m3, m4⟩ := meetB_iff.mp c2
      have h2 := vld_iff.mp hy j (by omega)
      rw [c1, Bool.true_and] at h2
      apply Nat.le_of_not_lt
      intro h3
      have : meetB y z (L j) (Z j) = true := meetB_iff.mpr ⟨m1, m2, by omega, by omega⟩
      rw [h2] at this
      cases this
    · exact h1
theorem psF_eq {S : Nat → Bool} {z : Nat} {L Z : Nat → Nat} {n x : Nat} (h : psF S z L Z x n = x) : vld S z L Z n x = true := by
  have all : ∀ j, j ≤ n → psF S z L Z x j = x := by
    intro j hj
    have h1 := (psF_ge (S := S) (z := z) (L := L) (Z := Z) (x := x) (j := j)).2
    have h2 : psF S z L Z x j ≤ psF S z L Z x n := by
      obtain ⟨k, rfl⟩ := Nat.exists_eq_add_of_le hj
      clear h hj
      induction k with
      | zero => exact Nat.le_refl _
      | succ k ih => exact Nat.le_trans ih psF_ge.1
    omega
  rw [vld_iff]
  intro j hj
  have h1 := all (j + 1) (by omega)
  rw [psF, all j (by omega)] at h1
  cases hc : (S j && meetB x z (L j) (Z j)) with
  | false => rfl
  | true =>
    rw [hc, if_pos rfl] at h1
    have := (meetB_iff.mp (Bool.and_eq_true_iff.mp hc).2).2.2.1
    omega
/-- the least place that holds -/
def lwX (S : Nat → Bool) (z : Nat) (L Z : Nat → Nat) (n : Nat) : Nat := (fst1 (vld S z L Z n) 300000 0).getD 0
theorem lwX_ok {S : Nat → Bool} {z : Nat} {L Z : Nat → Nat} {n B : Nat} (hB : ∀ j, j < n → L j + Z j ≤ B) (hB2 : B < 300000) : vld S z L Z n (lwX S z L Z n) = true ∧ lwX S z L Z n ≤ B ∧ ∀ y, vld S z L Z n y = true → lwX S z L Z n ≤ y := by
  have hv : vld S z L Z n B = true := by
    rw [vld_iff]
    intro j hj
    have h1 := hB j hj
    cases hm : meetB B z (L j) (Z j) with
    | false => exact Bool.and_false _
    | true => have := (meetB_iff.mp hm).2.2.1; omega
  unfold lwX
  cases hq : fst1 (vld S z L Z n) 300000 0 with
  | none =>
    have := fst1_none.mp hq B (Nat.zero_le _) (by omega)
    rw [hv] at this
    cases this
  | some x =>
    obtain ⟨a1, a2, a3, a4⟩ := fst1_lt hq
    have mn : ∀ y, vld S z L Z n y = true → x ≤ y := by
      intro y hy
      apply Nat.le_of_not_lt
      intro hlt
      have := a4 y (Nat.zero_le _) hlt
      rw [hy] at this
      cases this
    exact ⟨a3, mn B hv, mn⟩
section M12
variable {d : Nat} {h : abH} {Q : Option Value → abH → Prop}
set_option maxHeartbeats 4000000 in
theorem c181 {a sa b sb : Nat} (h1 : a + sa < 2 ^ 31) (h2 : b + sb < 2 ^ 31) : aM d 181 [.int (nI a), .int (nI sa), .int (nI b), .int (nI sb)] h Q = Q (some (.int (zB (meetB a sa b sb)))) h := by
  have e1 : ∀ x, x < 2 ^ 31 → (0 < nI x) = (0 < x) := fun x hx => by rw [← nI_0]; exact lt_nI (by decide) hx
  unfold meetB
  simp (disch := omega) only [s181_0, s181_1, s181_4, s181_5, s181_8, s181_9, s181_10, s181_11, s181_12, s181_15, s181_16, s181_17, s181_18, s181_19, s181_22, s181_23, s181_26, s181_27, am181, isRf_ref, true_and, and_true, aPs_s, aPs_n, b01_0, b01_1, nI_clamp, ix_nI, inb_nI, lt_nI, eq_nI, nn_nI, eq0_nI, pk_mul, nI_add, lt_T, lt_F, if_true, if_false, true_and, and_true, neg1_nI, neg1_lt, neg1_neg, lt_neg1, eqN_F, eq_self, e1]
  by_cases g1 : 0 < sa
  · by_cases g2 : 0 < sb
    · by_cases g3 : a < b + sb
      · by_cases g4 : b < a + sa
        · simp only [g1, g2, g3, g4, Bool.not_false, Bool.not_true, Bool.true_and, Bool.false_and, Bool.and_true, Bool.and_false, Bool.or_true, Bool.or_false, Bool.true_or, Bool.false_or, Bool.true_eq_false, Bool.false_eq_true, if_true, if_false, Option.isSome_some, Option.isSome_none, Option.isNone_some, Option.isNone_none, zB_t, zB_f, nI1_0, nI0_0, decide_true]
        · simp only [g1, g2, g3, g4, Bool.not_false, Bool.not_true, Bool.true_and, Bool.false_and, Bool.and_true, Bool.and_false, Bool.or_true, Bool.or_false, Bool.true_or, Bool.false_or, Bool.true_eq_false, Bool.false_eq_true, if_true, if_false, Option.isSome_some, Option.isSome_none, Option.isNone_some, Option.isNone_none, zB_t, zB_f, nI1_0, nI0_0, decide_true, decide_false]
      · simp only [g1, g2, g3, Bool.not_false, Bool.not_true, Bool.true_and, Bool.false_and, Bool.and_true, Bool.and_false, Bool.or_true, Bool.or_false, Bool.true_or, Bool.false_or, Bool.true_eq_false, Bool.false_eq_true, if_true, if_false, Option.isSome_some, Option.isSome_none, Option.isNone_some, Option.isNone_none, zB_t, zB_f, nI1_0, nI0_0, decide_true, decide_false]
    · simp only [g1, g2, Bool.not_false, Bool.not_true, Bool.true_and, Bool.false_and, Bool.and_true, Bool.and_false, Bool.or_true, Bool.or_false, Bool.true_or, Bool.false_or, Bool.true_eq_false, Bool.false_eq_true, if_true, if_false, Option.isSome_some, Option.isSome_none, Option.isNone_some, Option.isNone_none, zB_t, zB_f, nI1_0, nI0_0, decide_true, decide_false]
  · simp only [g1, Bool.not_false, Bool.not_true, Bool.true_and, Bool.false_and, Bool.and_true, Bool.and_false, Bool.or_true, Bool.or_false, Bool.true_or, Bool.false_or, Bool.true_eq_false, Bool.false_eq_true, if_true, if_false, Option.isSome_some, Option.isSome_none, Option.isNone_some, Option.isNone_none, zB_t, zB_f, nI1_0, nI0_0, decide_false]
set_option maxHeartbeats 4000000 in
theorem c180 (HM : KM h) {P : Nat → Nat → Int32} (hP : pv h = P) (V : okP P) {o : Nat → Nat} (O : ovH h P o) {a b : Nat} (ha : a < 12) (hb : b < 12) : aM (d + 1) 180 [.ref 65, .int (nI a), .int (nI b)] h Q = Q (some (.int (zB (shB P o a b)))) h := by
  have s10 := V.s.1
  have e4 := hS hP V
  have loop := for_dn (F := fun k => aW (d + 1) 180 2 [.ref 65, .int (nI a), .int (nI b), .int (nI k)] [] h Q) (R := fun k => Q (some (.int (zB (fst1 (fun k => mAl P o a k && mAl P o b k) (nS P - k) k).isSome))) h) (nS P) (by
    rw [s180_2]
    simp (disch := first | omega | assumption | exact gt_65 HM | fail) only [s180_0, s180_1, s180_3, s180_4, s180_7, s180_10, s180_11, s180_12, s180_13, s180_16, s180_19, s180_20, s180_21, s180_22, s180_25, s180_28, s180_29, s180_30, s180_33, s180_36, s180_37, gt_65 HM, am180, isRf_ref, true_and, and_true, aPs_s, aPs_n, b01_0, b01_1, nI_clamp, ix_nI, inb_nI, lt_nI, eq_nI, nn_nI, eq0_nI, pk_mul, nI_add, lt_T, lt_F, if_true, if_false, true_and, and_true, neg1_nI, neg1_lt, neg1_neg, lt_neg1, eqN_F, eq_self,  e4, Nat.lt_irrefl, fst1_end, Option.isSome_none, zB_f]) (fun k hk ih => by
    have c165' : ∀ b, b < 12 → ∀ Q', aM d 165 [.ref 65, .int (nI b), .int (nI k)] h Q' = Q' (some (.int (zB (mAl P o b k)))) h := fun b hb Q' => c165 HM hP V O hb (by omega)
    rw [s180_2, fst1_step hk]
    rcases Bool.eq_false_or_eq_true (mAl P o a k) with h1 | h1 <;> rcases Bool.eq_false_or_eq_true (mAl P o b k) with h2 | h2 <;> simp (disch := first | omega | assumption | exact gt_65 HM | fail) only [s180_0, s180_1, s180_3, s180_4, s180_7, s180_10, s180_11, s180_12, s180_13, s180_16, s180_19, s180_20, s180_21, s180_22, s180_25, s180_28, s180_29, s180_30, s180_33, s180_36, s180_37, gt_65 HM, am180, isRf_ref, true_and, and_true, aPs_s, aPs_n, b01_0, b01_1, nI_clamp, ix_nI, inb_nI, lt_nI, eq_nI, nn_nI, eq0_nI, pk_mul, nI_add, lt_T, lt_F, if_true, if_false, true_and, and_true, neg1_nI, neg1_lt, neg1_neg, lt_neg1, eqN_F, eq_self,  e4, hk, ha, hb, c165', h1, h2, Bool.not_false, Bool.not_true, Bool.true_and, Bool.false_and, Bool.and_true, Bool.and_false, Bool.or_true, Bool.or_false, Bool.true_or, Bool.false_or, Bool.true_eq_false, Bool.false_eq_true, if_true, if_false, Option.isSome_some, Option.isSome_none, Option.isNone_some, Option.isNone_none, zB_t, zB_f, nI1_0, nI0_0, ih])
  simp (disch := first | omega | assumption | exact gt_65 HM | fail) only [s180_0, s180_1, s180_3, s180_4, s180_7, s180_10, s180_11, s180_12, s180_13, s180_16, s180_19, s180_20, s180_21, s180_22, s180_25, s180_28, s180_29, s180_30, s180_33, s180_36, s180_37, gt_65 HM, am180, isRf_ref, true_and, and_true, aPs_s, aPs_n, b01_0, b01_1, nI_clamp, ix_nI, inb_nI, lt_nI, eq_nI, nn_nI, eq0_nI, pk_mul, nI_add, lt_T, lt_F, if_true, if_false, true_and, and_true, neg1_nI, neg1_lt, neg1_neg, lt_neg1, eqN_F, eq_self, ]
  exact loop 0 (Nat.zero_le _)
end M12
