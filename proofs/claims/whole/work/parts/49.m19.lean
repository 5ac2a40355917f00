/-! THE REFERENCE: lay, clash -/
def plI (t : Int32) : Bool := decide (¬ t < -1 ∧ ¬ nI 99999 < t)
theorem plI_of {t : Int32} (h : plI t = true) : ∃ x : Option Nat, (∀ j, x = some j → j < 100000) ∧ t = oI x := by
  obtain ⟨h1, h2⟩ := of_decide_eq_true h
  by_cases h0 : t < 0
  · refine ⟨none, ⟨fun j hj => (by cases hj), ?_⟩⟩
    have e1 : (-1 : Int32).toInt = -1 := by decide
    have e0 : (0 : Int32).toInt = 0 := by decide
    rw [Int32.lt_iff_toInt_lt, e0] at h0
    rw [Int32.lt_iff_toInt_lt, e1] at h1
    exact Int32.toInt_inj.mp (by rw [oI_n, e1]; omega)
  · obtain ⟨e1, e2⟩ := nI_nonneg h0
    refine ⟨some t.toInt.toNat, ⟨fun j hj => ?_, e1⟩⟩
    cases hj
    rw [e1, lt_nI (by decide) e2] at h2
    omega
theorem p0_nI {x : Nat} (hx : x < 2 ^ 31) : (0 < nI x) = (0 < x) := by rw [← nI_0]; exact lt_nI (by decide) hx
/-- at how many places two BUFFERS are ALIVE, and at which one last -/
def clN (P : Nat → Nat → Int32) (o : Nat → Nat) (a b : Nat) : Nat → Nat × Option Nat
  | 0 => (0, none)
  | k + 1 => if (mAl P o a k && mAl P o b k) = true then ((clN P o a b k).1 + 1, some k) else clN P o a b k
theorem clN_ok {P : Nat → Nat → Int32} {o : Nat → Nat} {a b : Nat} : ∀ {n : Nat}, (clN P o a b n).1 ≤ n ∧ (∀ k, (clN P o a b n).2 = some k → k < n) ∧ ((clN P o a b n).2 = none → (clN P o a b n).1 = 0) := by
  intro n
  induction n with
  | zero => exact ⟨Nat.le_refl _, fun k hk => (by cases hk), fun _ => rfl⟩
  | succ n ih =>
    rw [clN]
    split
    · exact ⟨by simp only; omega, fun k hk => (by cases hk; omega), fun h => (by cases h)⟩
    · exact ⟨by omega, fun k hk => by have := ih.2.1 k hk; omega, ih.2.2⟩
theorem clN_pos {P : Nat → Nat → Int32} {o : Nat → Nat} {a b : Nat} : ∀ {n k : Nat}, (clN P o a b n).2 = some k → 0 < (clN P o a b n).1 := by
  intro n
  induction n with
  | zero => intro k h; cases h
  | succ n ih =>
    intro k h
    rw [clN] at h ⊢
    split at h
    · rename_i hc; rw [if_pos hc]; exact Nat.succ_pos _
    · rename_i hc; rw [if_neg hc]; exact ih h
/-- do two BUFFERS that share a cell CLASH -/
def hdC (P : Nat → Nat → Int32) (o : Nat → Nat) (a b : Nat) : Bool := match (clN P o a b (nS P)).2 with
  | none => false
  | some k => if (clN P o a b (nS P)).1 = 1 then !((mOv P o k == some a && nWt P (o k) == b) || (mOv P o k == some b && nWt P (o k) == a)) else true
section M19
variable {d : Nat} {h : abH} {Q : Option Value → abH → Prop}
set_option maxHeartbeats 4000000 in
theorem t187 (HM : KM h) {P : Nat → Nat → Int32} (hP : pv h = P) {k t : Int32} : aM (d + 2) 187 [.ref 65, .int k, .int t] h Q = (match bf P k with
    | none => Q (some (.int (-5))) h
    | some b => if plI t = true then Q (some (.int (gI h 89 b))) (pI h 89 b t) else Q (some (.int (-2))) h) := by
  have c153' : ∀ Q', aM (d + 1) 153 [.ref 65, .int k] h Q' = Q' (some (.int (zB (bf P k).isSome))) h := fun Q' => c153 HM hP
  have hin : decide (¬ t < -1 ∧ ¬ 99999 < t) = plI t := rfl
  rcases bf_cases P k with ⟨b, hb, rfl, e, h68⟩ | e
  · rcases Bool.eq_false_or_eq_true (plI t) with h1 | h1
    · simp (disch := first | omega | assumption | exact gt_65 HM | fail) only [s187_0, s187_1, s187_2, s187_5, s187_8, s187_10, s187_11, s187_12, s187_13, s187_16, s187_19, s187_22, s187_24, s187_25, s187_26, s187_29, s187_30, s187_31, s187_32, s187_33, s187_36, s187_37, s187_38, s187_39, s187_40, ai_89 HM, aj_89 HM, gr_65_28 HM, gt_65 HM, am187, isRf_ref, true_and, and_true, aPs_s, aPs_n, b01_0, b01_1, nI_clamp, ix_nI, inb_nI, lt_nI, eq_nI, nn_nI, eq0_nI, pk_mul, nI_add, lt_T, lt_F, if_true, if_false, true_and, and_true, neg1_nI, neg1_lt, neg1_neg, lt_neg1, eqN_F, eq_self,  c153', e, Bool.not_false, Bool.not_true, Bool.true_and, Bool.false_and, Bool.and_true, Bool.and_false, Bool.or_true, Bool.or_false, Bool.true_or, Bool.false_or, Bool.true_eq_false, Bool.false_eq_true, if_true, if_false, Option.isSome_some, Option.isSome_none, Option.isNone_some, Option.isNone_none, zB_t, zB_f, nI1_0, nI0_0, c139, hin, h1]
    · simp (disch := first | omega | assumption | exact gt_65 HM | fail) only [s187_0, s187_1, s187_2, s187_5, s187_8, s187_10, s187_11, s187_12, s187_13, s187_16, s187_19, s187_22, s187_24, s187_25, s187_26, s187_29, s187_30, s187_31, s187_32, s187_33, s187_36, s187_37, s187_38, s187_39, s187_40, ai_89 HM, aj_89 HM, gr_65_28 HM, gt_65 HM, am187, isRf_ref, true_and, and_true, aPs_s, aPs_n, b01_0, b01_1, nI_clamp, ix_nI, inb_nI, lt_nI, eq_nI, nn_nI, eq0_nI, pk_mul, nI_add, lt_T, lt_F, if_true, if_false, true_and, and_true, neg1_nI, neg1_lt, neg1_neg, lt_neg1, eqN_F, eq_self,  c153', e, Bool.not_false, Bool.not_true, Bool.true_and, Bool.false_and, Bool.and_true, Bool.and_false, Bool.or_true, Bool.or_false, Bool.true_or, Bool.false_or, Bool.true_eq_false, Bool.false_eq_true, if_true, if_false, Option.isSome_some, Option.isSome_none, Option.isNone_some, Option.isNone_none, zB_t, zB_f, nI1_0, nI0_0, c139, hin, h1]
  · simp (disch := first | omega | assumption | exact gt_65 HM | fail) only [s187_0, s187_1, s187_2, s187_5, s187_8, s187_10, s187_11, s187_12, s187_13, s187_16, s187_19, s187_22, s187_24, s187_25, s187_26, s187_29, s187_30, s187_31, s187_32, s187_33, s187_36, s187_37, s187_38, s187_39, s187_40, ai_89 HM, aj_89 HM, gr_65_28 HM, gt_65 HM, am187, isRf_ref, true_and, and_true, aPs_s, aPs_n, b01_0, b01_1, nI_clamp, ix_nI, inb_nI, lt_nI, eq_nI, nn_nI, eq0_nI, pk_mul, nI_add, lt_T, lt_F, if_true, if_false, true_and, and_true, neg1_nI, neg1_lt, neg1_neg, lt_neg1, eqN_F, eq_self,  c153', e, Bool.not_false, Bool.not_true, Bool.true_and, Bool.false_and, Bool.and_true, Bool.and_false, Bool.or_true, Bool.or_false, Bool.true_or, Bool.false_or, Bool.true_eq_false, Bool.false_eq_true, if_true, if_false, Option.isSome_some, Option.isSome_none, Option.isNone_some, Option.isNone_none, zB_t, zB_f, nI1_0, nI0_0]
end M19
