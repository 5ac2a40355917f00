/-! THE REFERENCE: fits, sendOut -/
/-- what stands idle of a set at a place -/
def zOt (P : Nat → Nat → Int32) (o : Nat → Nat) (D k : Nat) : Nat → Nat
  | 0 => 0
  | b + 1 => zOt P o D k b + (if (tb D b && ioB P o b k) = true then zS P b else 0)
theorem ioB_al {P : Nat → Nat → Int32} {o : Nat → Nat} {b k : Nat} (h : ioB P o b k = true) : mAl P o b k = true := (Bool.and_eq_true_iff.mp h).1
/-- is LOAD small enough at a place -/
def ftB (P : Nat → Nat → Int32) (o : Nat → Nat) (D room k : Nat) : Bool := decide (zLd P o k ≤ room + zOt P o D k 12)
def fiB (P : Nat → Nat → Int32) (o : Nat → Nat) (D room : Nat) : Bool := (fst1 (fun k => !ftB P o D room k) (nS P) 0).isNone
theorem zOt_le {P : Nat → Nat → Int32} (V : okP P) {o : Nat → Nat} {D k : Nat} : ∀ {n : Nat}, n ≤ 12 → zOt P o D k n ≤ 39204 * n := by
  intro n
  induction n with
  | zero => exact fun _ => Nat.le_refl _
  | succ n ih =>
    intro hn
    have := ih (by omega)
    have := (zS_ok V (show n < 12 by omega)).2
    rw [zOt]
    split <;> omega
theorem sub_nI {a b : Nat} (ha : a < 2 ^ 30) (hb : b < 2 ^ 30) : (nI a - nI b).toInt = (a : Int) - b := by
  rw [Int32.toInt_sub, nI_toInt (by omega), nI_toInt (by omega)]
  exact Int.bmod_eq_of_le_mul_two (by omega) (by omega)
theorem sub_sub_nI {a b c : Nat} : nI a - nI b - nI c = nI a - nI (b + c) := by rw [Int32.sub_sub, nI_add]
theorem lt_sub_nI {r a b : Nat} (hr : r < 2 ^ 30) (ha : a < 2 ^ 30) (hb : b < 2 ^ 30) : (nI r < nI a - nI b) = (r + b < a) := by
  apply propext
  rw [Int32.lt_iff_toInt_lt, sub_nI ha hb, nI_toInt (by omega)]
  omega
theorem sub_0_nI {a : Nat} : nI a - nI 0 = nI a := pk_sub (Nat.zero_le a)
section M22
variable {d : Nat} {h : abH} {Q : Option Value → abH → Prop}
set_option maxHeartbeats 4000000 in
theorem c192 (HM : KM h) {P : Nat → Nat → Int32} (hP : pv h = P) (V : okP P) {o : Nat → Nat} (O : ovH h P o) {D room : Nat} (hD : D < 4096) (hr : room < 100000) : aM (d + 3) 192 [.ref 65, .int (nI D), .int (nI room)] h Q = Q (some (.int (zB (fiB P o D room)))) h := by
  have s10 := V.s.1
  have e4 := hS hP V
  have loop := for_d4 (α := Value) (β := Value) (γ := Unit) (δ := Unit) (F := fun k x y _ _ => aW (d + 3) 192 2 [.ref 65, .int (nI D), .int (nI room), .int (nI k), x, y] [] h Q) (R := fun k => Q (some (.int (zB (fst1 (fun k => !ftB P o D room k) (nS P - k) k).isNone))) h) (nS P) (fun x y _ _ => by
    rw [s192_2, fst1_end]
    simp (disch := first | omega | assumption | exact gt_65 HM | fail) only [s192_0, s192_1, s192_3, s192_4, s192_7, s192_10, s192_11, s192_12, s192_15, s192_17, s192_18, s192_22, s192_24, s192_27, s192_29, s192_30, s192_32, s192_33, s192_34, s192_35, s192_36, s192_39, s192_40, s192_42, s192_43, s192_46, s192_49, s192_50, s192_52, s192_55, s192_58, s192_59, s192_60, s192_62, s192_65, s192_68, s192_70, s192_71, s192_74, s192_75, s192_76, s192_79, s192_82, s192_83, gt_65 HM, am192, isRf_ref, true_and, and_true, aPs_s, aPs_n, b01_0, b01_1, nI_clamp, ix_nI, inb_nI, lt_nI, eq_nI, nn_nI, eq0_nI, pk_mul, nI_add, lt_T, lt_F, if_true, if_false, true_and, and_true, neg1_nI, neg1_lt, neg1_neg, lt_neg1, eqN_F, eq_self,  e4, Nat.lt_irrefl, Option.isNone_none, zB_t, b01_1]) (fun k hk ih x y _ _ => by
    have o2 := (O.1 k hk).2
    have hl := zLd_le V o2
    have ho := zOt_le V (o := o) (D := D) (k := k) (Nat.le_refl 12)
    have c170' : ∀ Q', aM (d + 2) 170 [.ref 65, .int (nI k)] h Q' = Q' (some (.int (nI (zLd P o k)))) h := fun Q' => c170 HM hP V O hk
    have ih2 := fun x y => ih x y () ()
    have inner := for_0 (F := fun b => aW (d + 3) 192 20 [.ref 65, .int (nI D), .int (nI room), .int (nI k), .int (nI (zLd P o k) - nI (zOt P o D k b)), .int (nI b)] [] h Q) (R := Q (some (.int (zB (fst1 (fun k => !ftB P o D room k) (nS P - k) k).isNone))) h) 12 (by
      have lt := lt_sub_nI (r := room) (a := zLd P o k) (b := zOt P o D k 12) (by omega) (by omega) (by omega)
      rw [s192_20, fst1_step hk]
      unfold ftB
      by_cases h5 : room + zOt P o D k 12 < zLd P o k
      · simp (disch := first | omega | assumption | exact gt_65 HM | fail) only [s192_0, s192_1, s192_3, s192_4, s192_7, s192_10, s192_11, s192_12, s192_15, s192_17, s192_18, s192_22, s192_24, s192_27, s192_29, s192_30, s192_32, s192_33, s192_34, s192_35, s192_36, s192_39, s192_40, s192_42, s192_43, s192_46, s192_49, s192_50, s192_52, s192_55, s192_58, s192_59, s192_60, s192_62, s192_65, s192_68, s192_70, s192_71, s192_74, s192_75, s192_76, s192_79, s192_82, s192_83, gt_65 HM, am192, isRf_ref, true_and, and_true, aPs_s, aPs_n, b01_0, b01_1, nI_clamp, ix_nI, inb_nI, lt_nI, eq_nI, nn_nI, eq0_nI, pk_mul, nI_add, lt_T, lt_F, if_true, if_false, true_and, and_true, neg1_nI, neg1_lt, neg1_neg, lt_neg1, eqN_F, eq_self,  Nat.lt_irrefl, lt, h5, decide_false, show ¬ zLd P o k ≤ room + zOt P o D k 12 by omega, Bool.not_false, Bool.not_true, Bool.true_and, Bool.false_and, Bool.and_true, Bool.and_false, Bool.or_true, Bool.or_false, Bool.true_or, Bool.false_or, Bool.true_eq_false, Bool.false_eq_true, if_true, if_false, Option.isSome_some, Option.isSome_none, Option.isNone_some, Option.isNone_none, zB_t, zB_f, nI1_0, nI0_0, b01_0]
      · unfold ftB at ih2
        simp (disch := first | omega | assumption | exact gt_65 HM | fail) only [s192_0, s192_1, s192_3, s192_4, s192_7, s192_10, s192_11, s192_12, s192_15, s192_17, s192_18, s192_22, s192_24, s192_27, s192_29, s192_30, s192_32, s192_33, s192_34, s192_35, s192_36, s192_39, s192_40, s192_42, s192_43, s192_46, s192_49, s192_50, s192_52, s192_55, s192_58, s192_59, s192_60, s192_62, s192_65, s192_68, s192_70, s192_71, s192_74, s192_75, s192_76, s192_79, s192_82, s192_83, gt_65 HM, am192, isRf_ref, true_and, and_true, aPs_s, aPs_n, b01_0, b01_1, nI_clamp, ix_nI, inb_nI, lt_nI, eq_nI, nn_nI, eq0_nI, pk_mul, nI_add, lt_T, lt_F, if_true, if_false, true_and, and_true, neg1_nI, neg1_lt, neg1_neg, lt_neg1, eqN_F, eq_self,  Nat.lt_irrefl, lt, h5, decide_true, show zLd P o k ≤ room + zOt P o D k 12 by omega, Bool.not_false, Bool.not_true, Bool.true_and, Bool.false_and, Bool.and_true, Bool.and_false, Bool.or_true, Bool.or_false, Bool.true_or, Bool.false_or, Bool.true_eq_false, Bool.false_eq_true, if_true, if_false, Option.isSome_some, Option.isSome_none, Option.isNone_some, Option.isNone_none, zB_t, zB_f, nI1_0, nI0_0, ih2]) (fun b hb => by
      have c154' : ∀ Q', aM (d + 2) 154 [.ref 65, .int (nI b)] h Q' = Q' (some (.int (nI (zS P b)))) h := fun Q' => c154n HM hP hb V
      have c190' : ∀ Q', aM (d + 2) 190 [.ref 65, .int (nI b), .int (nI k)] h Q' = Q' (some (.int (zB (ioB P o b k)))) h := fun Q' => c190 HM hP V O hb hk
      rw [s192_20, zOt]
      rcases Bool.eq_false_or_eq_true (tb D b) with g1 | g1
      · rcases Bool.eq_false_or_eq_true (ioB P o b k) with g2 | g2
        · simp (disch := first | omega | assumption | exact gt_65 HM | fail) only [s192_0, s192_1, s192_3, s192_4, s192_7, s192_10, s192_11, s192_12, s192_15, s192_17, s192_18, s192_22, s192_24, s192_27, s192_29, s192_30, s192_32, s192_33, s192_34, s192_35, s192_36, s192_39, s192_40, s192_42, s192_43, s192_46, s192_49, s192_50, s192_52, s192_55, s192_58, s192_59, s192_60, s192_62, s192_65, s192_68, s192_70, s192_71, s192_74, s192_75, s192_76, s192_79, s192_82, s192_83, gt_65 HM, am192, isRf_ref, true_and, and_true, aPs_s, aPs_n, b01_0, b01_1, nI_clamp, ix_nI, inb_nI, lt_nI, eq_nI, nn_nI, eq0_nI, pk_mul, nI_add, lt_T, lt_F, if_true, if_false, true_and, and_true, neg1_nI, neg1_lt, neg1_neg, lt_neg1, eqN_F, eq_self,  hb, bit_1, g1, g2, Bool.not_false, Bool.not_true, Bool.true_and, Bool.false_and, Bool.and_true, Bool.and_false, Bool.or_true, Bool.or_false, Bool.true_or, Bool.false_or, Bool.true_eq_false, Bool.false_eq_true, if_true, if_false, Option.isSome_some, Option.isSome_none, Option.isNone_some, Option.isNone_none, zB_t, zB_f, nI1_0, nI0_0, c154', c190', sub_sub_nI]
        · simp (disch := first | omega | assumption | exact gt_65 HM | fail) only [s192_0, s192_1, s192_3, s192_4, s192_7, s192_10, s192_11, s192_12, s192_15, s192_17, s192_18, s192_22, s192_24, s192_27, s192_29, s192_30, s192_32, s192_33, s192_34, s192_35, s192_36, s192_39, s192_40, s192_42, s192_43, s192_46, s192_49, s192_50, s192_52, s192_55, s192_58, s192_59, s192_60, s192_62, s192_65, s192_68, s192_70, s192_71, s192_74, s192_75, s192_76, s192_79, s192_82, s192_83, gt_65 HM, am192, isRf_ref, true_and, and_true, aPs_s, aPs_n, b01_0, b01_1, nI_clamp, ix_nI, inb_nI, lt_nI, eq_nI, nn_nI, eq0_nI, pk_mul, nI_add, lt_T, lt_F, if_true, if_false, true_and, and_true, neg1_nI, neg1_lt, neg1_neg, lt_neg1, eqN_F, eq_self,  hb, bit_1, g1, g2, Bool.not_false, Bool.not_true, Bool.true_and, Bool.false_and, Bool.and_true, Bool.and_false, Bool.or_true, Bool.or_false, Bool.true_or, Bool.false_or, Bool.true_eq_false, Bool.false_eq_true, if_true, if_false, Option.isSome_some, Option.isSome_none, Option.isNone_some, Option.isNone_none, zB_t, zB_f, nI1_0, nI0_0, c190', sub_sub_nI, Nat.add_zero]
      · simp (disch := first | omega | assumption | exact gt_65 HM | fail) only [s192_0, s192_1, s192_3, s192_4, s192_7, s192_10, s192_11, s192_12, s192_15, s192_17, s192_18, s192_22, s192_24, s192_27, s192_29, s192_30, s192_32, s192_33, s192_34, s192_35, s192_36, s192_39, s192_40, s192_42, s192_43, s192_46, s192_49, s192_50, s192_52, s192_55, s192_58, s192_59, s192_60, s192_62, s192_65, s192_68, s192_70, s192_71, s192_74, s192_75, s192_76, s192_79, s192_82, s192_83, gt_65 HM, am192, isRf_ref, true_and, and_true, aPs_s, aPs_n, b01_0, b01_1, nI_clamp, ix_nI, inb_nI, lt_nI, eq_nI, nn_nI, eq0_nI, pk_mul, nI_add, lt_T, lt_F, if_true, if_false, true_and, and_true, neg1_nI, neg1_lt, neg1_neg, lt_neg1, eqN_F, eq_self,  hb, bit_1, g1, Bool.not_false, Bool.not_true, Bool.true_and, Bool.false_and, Bool.and_true, Bool.and_false, Bool.or_true, Bool.or_false, Bool.true_or, Bool.false_or, Bool.true_eq_false, Bool.false_eq_true, if_true, if_false, Option.isSome_some, Option.isSome_none, Option.isNone_some, Option.isNone_none, zB_t, zB_f, nI1_0, nI0_0, sub_sub_nI, Nat.add_zero])
    rw [s192_2]
    simp (disch := first | omega | assumption | exact gt_65 HM | fail) only [s192_0, s192_1, s192_3, s192_4, s192_7, s192_10, s192_11, s192_12, s192_15, s192_17, s192_18, s192_22, s192_24, s192_27, s192_29, s192_30, s192_32, s192_33, s192_34, s192_35, s192_36, s192_39, s192_40, s192_42, s192_43, s192_46, s192_49, s192_50, s192_52, s192_55, s192_58, s192_59, s192_60, s192_62, s192_65, s192_68, s192_70, s192_71, s192_74, s192_75, s192_76, s192_79, s192_82, s192_83, gt_65 HM, am192, isRf_ref, true_and, and_true, aPs_s, aPs_n, b01_0, b01_1, nI_clamp, ix_nI, inb_nI, lt_nI, eq_nI, nn_nI, eq0_nI, pk_mul, nI_add, lt_T, lt_F, if_true, if_false, true_and, and_true, neg1_nI, neg1_lt, neg1_neg, lt_neg1, eqN_F, eq_self,  e4, hk, c170']
    rw [show zOt P o D k 0 = 0 from rfl, sub_0_nI] at inner
    exact inner)
  simp (disch := first | omega | assumption | exact gt_65 HM | fail) only [s192_0, s192_1, s192_3, s192_4, s192_7, s192_10, s192_11, s192_12, s192_15, s192_17, s192_18, s192_22, s192_24, s192_27, s192_29, s192_30, s192_32, s192_33, s192_34, s192_35, s192_36, s192_39, s192_40, s192_42, s192_43, s192_46, s192_49, s192_50, s192_52, s192_55, s192_58, s192_59, s192_60, s192_62, s192_65, s192_68, s192_70, s192_71, s192_74, s192_75, s192_76, s192_79, s192_82, s192_83, gt_65 HM, am192, isRf_ref, true_and, and_true, aPs_s, aPs_n, b01_0, b01_1, nI_clamp, ix_nI, inb_nI, lt_nI, eq_nI, nn_nI, eq0_nI, pk_mul, nI_add, lt_T, lt_F, if_true, if_false, true_and, and_true, neg1_nI, neg1_lt, neg1_neg, lt_neg1, eqN_F, eq_self, ]
  exact loop 0 (Nat.zero_le _) _ _ () ()
end M22
