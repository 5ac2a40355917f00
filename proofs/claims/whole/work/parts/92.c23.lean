/-! THE CLASS: SHEETS, small questions -/
def bcH (h : abH) (s : Nat) (t n : Int32) (m : Nat) : abH := pA (pI (pI h (57 + 2 * s) 0 t) (57 + 2 * s) 1 n) (58 + 2 * s) (pre (fun _ => nI 0) m (gI h (58 + 2 * s)))
section C23
variable {d : Nat} {h : abH} {Q : Option Value → abH → Prop}
set_option maxHeartbeats 4000000 in
theorem c78 (H : KC h) {s : Nat} (hs : s < 4) {t n : Int32} : aM d 78 [.ref (57 + 2 * s), .int t, .int n] h Q = Q none (bcH h s t n 40) := by
  have HMa : ∀ m, KC (bcH h s t n m) := fun _ => H
  have loop := for_0 (F := fun m => aW d 78 12 [.ref (57 + 2 * s), .int t, .int n, .int (nI m)] [] (bcH h s t n m) Q) (R := Q none (bcH h s t n 40)) 40 (by
    rw [s78_12]
    simp (disch := first | omega | assumption | exact gtS (HMa _) hs | (simp only [gT_pA, gT_pI, gT_pR]; first | assumption | exact gtS (HMa _) hs) | fail) only [s78_0, s78_1, s78_2, s78_5, s78_6, s78_7, s78_10, s78_11, s78_13, s78_15, s78_18, s78_19, s78_22, s78_23, s78_24, s78_25, s78_28, s78_31, ajS (HMa _) hs, grS2 (HMa _) hs, gtS (HMa _) hs, am78, isRf_ref, true_and, and_true, aPs_s, aPs_n, b01_0, b01_1, nI_clamp, ix_nI, inb_nI, lt_nI, eq_nI, nn_nI, eq0_nI, pk_mul, nI_add, lt_T, lt_F, if_true, if_false, true_and, and_true, neg1_nI, neg1_lt, neg1_neg, lt_neg1, eqN_F, eq_self,  Nat.lt_irrefl]) (fun m hm => by
    have up : pI (bcH h s t n m) (58 + 2 * s) m (nI 0) = bcH h s t n (m + 1) := by
      unfold bcH
      rw [pI_def, gI_eq, pA_pA]
      congr 1
      exact pre_upd (g := fun _ => nI 0)
    rw [s78_12]
    simp (disch := first | omega | assumption | exact gtS (HMa _) hs | (simp only [gT_pA, gT_pI, gT_pR]; first | assumption | exact gtS (HMa _) hs) | fail) only [s78_0, s78_1, s78_2, s78_5, s78_6, s78_7, s78_10, s78_11, s78_13, s78_15, s78_18, s78_19, s78_22, s78_23, s78_24, s78_25, s78_28, s78_31, ajS (HMa _) hs, grS2 (HMa _) hs, gtS (HMa _) hs, am78, isRf_ref, true_and, and_true, aPs_s, aPs_n, b01_0, b01_1, nI_clamp, ix_nI, inb_nI, lt_nI, eq_nI, nn_nI, eq0_nI, pk_mul, nI_add, lt_T, lt_F, if_true, if_false, true_and, and_true, neg1_nI, neg1_lt, neg1_neg, lt_neg1, eqN_F, eq_self,  hm, up])
  have e0 : bcH h s t n 0 = pI (pI h (57 + 2 * s) 0 t) (57 + 2 * s) 1 n := by
    unfold bcH
    rw [pre_0]
    have : gI h (58 + 2 * s) = gI (pI (pI h (57 + 2 * s) 0 t) (57 + 2 * s) 1 n) (58 + 2 * s) := by
      rw [pI_def, gI_ne (by omega), pI_def, gI_ne (by omega)]
    rw [this, pA_self]
  have t1 := gtS (show KC (pI h (57 + 2 * s) 0 t) from H) hs
  simp (disch := first | omega | assumption | exact gtS H hs | (simp only [gT_pA, gT_pI, gT_pR]; first | assumption | exact gtS H hs) | fail) only [s78_0, s78_1, s78_2, s78_5, s78_6, s78_7, s78_10, s78_11, s78_13, s78_15, s78_18, s78_19, s78_22, s78_23, s78_24, s78_25, s78_28, s78_31, ajS H hs, grS2 H hs, gtS H hs, am78, isRf_ref, true_and, and_true, aPs_s, aPs_n, b01_0, b01_1, nI_clamp, ix_nI, inb_nI, lt_nI, eq_nI, nn_nI, eq0_nI, pk_mul, nI_add, lt_T, lt_F, if_true, if_false, true_and, and_true, neg1_nI, neg1_lt, neg1_neg, lt_neg1, eqN_F, eq_self,  t1]
  rw [← e0]
  exact loop
theorem c80 (H : KC h) {s z : Nat} (hs : s < 4) (hz : z ≤ 40) (e1 : gI h (57 + 2 * s) 1 = nI z) {i n : Int32} : aM d 80 [.ref (57 + 2 * s), .int i, .int n] h Q = Q (some (.int (zB (spB (nI z) i n)))) h := by
  by_cases h1 : n < 0
  · have e : spB (nI z) i n = false := decide_eq_false (fun q => q.1 h1)
    simp (disch := first | omega | assumption | exact gtS H hs | (simp only [gT_pA, gT_pI, gT_pR]; first | assumption | exact gtS H hs) | fail) only [s80_0, s80_1, s80_4, s80_5, s80_8, s80_9, s80_10, s80_13, s80_14, s80_15, s80_18, s80_19, s80_22, s80_23, gtS H hs, am80, isRf_ref, true_and, and_true, aPs_s, aPs_n, b01_0, b01_1, nI_clamp, ix_nI, inb_nI, lt_nI, eq_nI, nn_nI, eq0_nI, pk_mul, nI_add, lt_T, lt_F, if_true, if_false, true_and, and_true, neg1_nI, neg1_lt, neg1_neg, lt_neg1, eqN_F, eq_self,  h1, e, Bool.not_false, Bool.not_true, Bool.true_and, Bool.false_and, Bool.and_true, Bool.and_false, Bool.or_true, Bool.or_false, Bool.true_or, Bool.false_or, Bool.true_eq_false, Bool.false_eq_true, if_true, if_false, Option.isSome_some, Option.isSome_none, Option.isNone_some, Option.isNone_none, zB_t, zB_f, nI1_0, nI0_0]
  · by_cases h2 : i < 0
    · have e : spB (nI z) i n = false := decide_eq_false (fun q => q.2.1 h2)
      simp (disch := first | omega | assumption | exact gtS H hs | (simp only [gT_pA, gT_pI, gT_pR]; first | assumption | exact gtS H hs) | fail) only [s80_0, s80_1, s80_4, s80_5, s80_8, s80_9, s80_10, s80_13, s80_14, s80_15, s80_18, s80_19, s80_22, s80_23, gtS H hs, am80, isRf_ref, true_and, and_true, aPs_s, aPs_n, b01_0, b01_1, nI_clamp, ix_nI, inb_nI, lt_nI, eq_nI, nn_nI, eq0_nI, pk_mul, nI_add, lt_T, lt_F, if_true, if_false, true_and, and_true, neg1_nI, neg1_lt, neg1_neg, lt_neg1, eqN_F, eq_self,  h1, h2, e, Bool.not_false, Bool.not_true, Bool.true_and, Bool.false_and, Bool.and_true, Bool.and_false, Bool.or_true, Bool.or_false, Bool.true_or, Bool.false_or, Bool.true_eq_false, Bool.false_eq_true, if_true, if_false, Option.isSome_some, Option.isSome_none, Option.isNone_some, Option.isNone_none, zB_t, zB_f, nI1_0, nI0_0]
    · have h4 := sub_toInt (a := nI z) (b := n) (by rw [nn_nI (by omega)]; exact not_false) h1
      by_cases h3 : nI z - n < i
      · have e : spB (nI z) i n = false := decide_eq_false (fun q => by
          have := q.2.2
          rw [Int32.lt_iff_toInt_lt, h4] at h3
          omega)
        simp (disch := first | omega | assumption | exact gtS H hs | (simp only [gT_pA, gT_pI, gT_pR]; first | assumption | exact gtS H hs) | fail) only [s80_0, s80_1, s80_4, s80_5, s80_8, s80_9, s80_10, s80_13, s80_14, s80_15, s80_18, s80_19, s80_22, s80_23, gtS H hs, am80, isRf_ref, true_and, and_true, aPs_s, aPs_n, b01_0, b01_1, nI_clamp, ix_nI, inb_nI, lt_nI, eq_nI, nn_nI, eq0_nI, pk_mul, nI_add, lt_T, lt_F, if_true, if_false, true_and, and_true, neg1_nI, neg1_lt, neg1_neg, lt_neg1, eqN_F, eq_self,  h1, h2, e1, h3, e, Bool.not_false, Bool.not_true, Bool.true_and, Bool.false_and, Bool.and_true, Bool.and_false, Bool.or_true, Bool.or_false, Bool.true_or, Bool.false_or, Bool.true_eq_false, Bool.false_eq_true, if_true, if_false, Option.isSome_some, Option.isSome_none, Option.isNone_some, Option.isNone_none, zB_t, zB_f, nI1_0, nI0_0]
      · have e : spB (nI z) i n = true := decide_eq_true ⟨h1, h2, by
          rw [Int32.lt_iff_toInt_lt, h4] at h3
          omega⟩
        simp (disch := first | omega | assumption | exact gtS H hs | (simp only [gT_pA, gT_pI, gT_pR]; first | assumption | exact gtS H hs) | fail) only [s80_0, s80_1, s80_4, s80_5, s80_8, s80_9, s80_10, s80_13, s80_14, s80_15, s80_18, s80_19, s80_22, s80_23, gtS H hs, am80, isRf_ref, true_and, and_true, aPs_s, aPs_n, b01_0, b01_1, nI_clamp, ix_nI, inb_nI, lt_nI, eq_nI, nn_nI, eq0_nI, pk_mul, nI_add, lt_T, lt_F, if_true, if_false, true_and, and_true, neg1_nI, neg1_lt, neg1_neg, lt_neg1, eqN_F, eq_self,  h1, h2, e1, h3, e, Bool.not_false, Bool.not_true, Bool.true_and, Bool.false_and, Bool.and_true, Bool.and_false, Bool.or_true, Bool.or_false, Bool.true_or, Bool.false_or, Bool.true_eq_false, Bool.false_eq_true, if_true, if_false, Option.isSome_some, Option.isSome_none, Option.isNone_some, Option.isNone_none, zB_t, zB_f, nI1_0, nI0_0]
theorem c129 {k : Int32} : aM d 129 [.int k] h Q = Q (some (.int (zB (plc k 4).isSome))) h := by
  rcases plc_cases k 4 (by omega) with ⟨j, hj, rfl, e⟩ | ⟨e, e1, e2⟩ | ⟨e, e1, e2, e3, e4⟩
  · simp (disch := first | omega | assumption | fail) only [s129_0, s129_1, s129_4, s129_5, s129_6, s129_9, s129_10, s129_13, s129_14, am129, isRf_ref, true_and, and_true, aPs_s, aPs_n, b01_0, b01_1, nI_clamp, ix_nI, inb_nI, lt_nI, eq_nI, nn_nI, eq0_nI, pk_mul, nI_add, lt_T, lt_F, if_true, if_false, true_and, and_true, neg1_nI, neg1_lt, neg1_neg, lt_neg1, eqN_F, eq_self,  hj, e, Bool.not_false, Bool.not_true, Bool.true_and, Bool.false_and, Bool.and_true, Bool.and_false, Bool.or_true, Bool.or_false, Bool.true_or, Bool.false_or, Bool.true_eq_false, Bool.false_eq_true, if_true, if_false, Option.isSome_some, Option.isSome_none, Option.isNone_some, Option.isNone_none, zB_t, zB_f, nI1_0, nI0_0]
  · simp (disch := first | omega | assumption | fail) only [s129_0, s129_1, s129_4, s129_5, s129_6, s129_9, s129_10, s129_13, s129_14, am129, isRf_ref, true_and, and_true, aPs_s, aPs_n, b01_0, b01_1, nI_clamp, ix_nI, inb_nI, lt_nI, eq_nI, nn_nI, eq0_nI, pk_mul, nI_add, lt_T, lt_F, if_true, if_false, true_and, and_true, neg1_nI, neg1_lt, neg1_neg, lt_neg1, eqN_F, eq_self,  e, e1, Bool.not_false, Bool.not_true, Bool.true_and, Bool.false_and, Bool.and_true, Bool.and_false, Bool.or_true, Bool.or_false, Bool.true_or, Bool.false_or, Bool.true_eq_false, Bool.false_eq_true, if_true, if_false, Option.isSome_some, Option.isSome_none, Option.isNone_some, Option.isNone_none, zB_t, zB_f, nI1_0, nI0_0]
  · simp (disch := first | omega | assumption | fail) only [s129_0, s129_1, s129_4, s129_5, s129_6, s129_9, s129_10, s129_13, s129_14, am129, isRf_ref, true_and, and_true, aPs_s, aPs_n, b01_0, b01_1, nI_clamp, ix_nI, inb_nI, lt_nI, eq_nI, nn_nI, eq0_nI, pk_mul, nI_add, lt_T, lt_F, if_true, if_false, true_and, and_true, neg1_nI, neg1_lt, neg1_neg, lt_neg1, eqN_F, eq_self,  e, e1, e3, Bool.not_false, Bool.not_true, Bool.true_and, Bool.false_and, Bool.and_true, Bool.and_false, Bool.or_true, Bool.or_false, Bool.true_or, Bool.false_or, Bool.true_eq_false, Bool.false_eq_true, if_true, if_false, Option.isSome_some, Option.isSome_none, Option.isNone_some, Option.isNone_none, zB_t, zB_f, nI1_0, nI0_0]
theorem c130 {k : Int32} : aM d 130 [.int k] h Q = Q (some (.int (zB (plc k 3).isSome))) h := by
  rcases plc_cases k 3 (by omega) with ⟨j, hj, rfl, e⟩ | ⟨e, e1, e2⟩ | ⟨e, e1, e2, e3, e4⟩
  · simp (disch := first | omega | assumption | fail) only [s130_0, s130_1, s130_4, s130_5, s130_6, s130_9, s130_10, s130_13, s130_14, am130, isRf_ref, true_and, and_true, aPs_s, aPs_n, b01_0, b01_1, nI_clamp, ix_nI, inb_nI, lt_nI, eq_nI, nn_nI, eq0_nI, pk_mul, nI_add, lt_T, lt_F, if_true, if_false, true_and, and_true, neg1_nI, neg1_lt, neg1_neg, lt_neg1, eqN_F, eq_self,  e, hj, Bool.not_false, Bool.not_true, Bool.true_and, Bool.false_and, Bool.and_true, Bool.and_false, Bool.or_true, Bool.or_false, Bool.true_or, Bool.false_or, Bool.true_eq_false, Bool.false_eq_true, if_true, if_false, Option.isSome_some, Option.isSome_none, Option.isNone_some, Option.isNone_none, zB_t, zB_f, nI1_0, nI0_0]
  · simp (disch := first | omega | assumption | fail) only [s130_0, s130_1, s130_4, s130_5, s130_6, s130_9, s130_10, s130_13, s130_14, am130, isRf_ref, true_and, and_true, aPs_s, aPs_n, b01_0, b01_1, nI_clamp, ix_nI, inb_nI, lt_nI, eq_nI, nn_nI, eq0_nI, pk_mul, nI_add, lt_T, lt_F, if_true, if_false, true_and, and_true, neg1_nI, neg1_lt, neg1_neg, lt_neg1, eqN_F, eq_self,  e, e1, Bool.not_false, Bool.not_true, Bool.true_and, Bool.false_and, Bool.and_true, Bool.and_false, Bool.or_true, Bool.or_false, Bool.true_or, Bool.false_or, Bool.true_eq_false, Bool.false_eq_true, if_true, if_false, Option.isSome_some, Option.isSome_none, Option.isNone_some, Option.isNone_none, zB_t, zB_f, nI1_0, nI0_0]
  · have e5 : nI 3 - nI 1 = nI 2 := by decide
    rw [e5] at e4
    simp (disch := first | omega | assumption | fail) only [s130_0, s130_1, s130_4, s130_5, s130_6, s130_9, s130_10, s130_13, s130_14, am130, isRf_ref, true_and, and_true, aPs_s, aPs_n, b01_0, b01_1, nI_clamp, ix_nI, inb_nI, lt_nI, eq_nI, nn_nI, eq0_nI, pk_mul, nI_add, lt_T, lt_F, if_true, if_false, true_and, and_true, neg1_nI, neg1_lt, neg1_neg, lt_neg1, eqN_F, eq_self,  e, e1, e4, Bool.not_false, Bool.not_true, Bool.true_and, Bool.false_and, Bool.and_true, Bool.and_false, Bool.or_true, Bool.or_false, Bool.true_or, Bool.false_or, Bool.true_eq_false, Bool.false_eq_true, if_true, if_false, Option.isSome_some, Option.isSome_none, Option.isNone_some, Option.isNone_none, zB_t, zB_f, nI1_0, nI0_0]
theorem plI_c {t : Int32} : (nI 99999 < t) = ¬ (t < nI 100000) := by
  have e1 : (nI 99999).toInt = 99999 := by decide
  have e2 : (nI 100000).toInt = 100000 := by decide
  apply propext
  rw [Int32.lt_iff_toInt_lt, Int32.lt_iff_toInt_lt, e1, e2]
  omega
theorem c131 {k : Int32} : aM d 131 [.int k] h Q = Q (some (.int (zB (plI k)))) h := by
  by_cases h1 : k < -1
  · have e : plI k = false := decide_eq_false (fun q => q.1 h1)
    simp (disch := first | omega | assumption | fail) only [s131_0, s131_1, s131_2, s131_5, s131_6, s131_8, s131_11, s131_12, s131_15, s131_16, am131, isRf_ref, true_and, and_true, aPs_s, aPs_n, b01_0, b01_1, nI_clamp, ix_nI, inb_nI, lt_nI, eq_nI, nn_nI, eq0_nI, pk_mul, nI_add, lt_T, lt_F, if_true, if_false, true_and, and_true, neg1_nI, neg1_lt, neg1_neg, lt_neg1, eqN_F, eq_self,  h1, e, Bool.not_false, Bool.not_true, Bool.true_and, Bool.false_and, Bool.and_true, Bool.and_false, Bool.or_true, Bool.or_false, Bool.true_or, Bool.false_or, Bool.true_eq_false, Bool.false_eq_true, if_true, if_false, Option.isSome_some, Option.isSome_none, Option.isNone_some, Option.isNone_none, zB_t, zB_f, nI1_0, nI0_0]
  · by_cases h2 : k < (100000 : Int32)
    · have e : plI k = true := decide_eq_true ⟨h1, by rw [plI_c]; exact fun q => q h2⟩
      simp (disch := first | omega | assumption | fail) only [s131_0, s131_1, s131_2, s131_5, s131_6, s131_8, s131_11, s131_12, s131_15, s131_16, am131, isRf_ref, true_and, and_true, aPs_s, aPs_n, b01_0, b01_1, nI_clamp, ix_nI, inb_nI, lt_nI, eq_nI, nn_nI, eq0_nI, pk_mul, nI_add, lt_T, lt_F, if_true, if_false, true_and, and_true, neg1_nI, neg1_lt, neg1_neg, lt_neg1, eqN_F, eq_self,  h1, h2, e, Bool.not_false, Bool.not_true, Bool.true_and, Bool.false_and, Bool.and_true, Bool.and_false, Bool.or_true, Bool.or_false, Bool.true_or, Bool.false_or, Bool.true_eq_false, Bool.false_eq_true, if_true, if_false, Option.isSome_some, Option.isSome_none, Option.isNone_some, Option.isNone_none, zB_t, zB_f, nI1_0, nI0_0]
    · have e : plI k = false := decide_eq_false (fun q => q.2 (by rw [plI_c]; exact h2))
      simp (disch := first | omega | assumption | fail) only [s131_0, s131_1, s131_2, s131_5, s131_6, s131_8, s131_11, s131_12, s131_15, s131_16, am131, isRf_ref, true_and, and_true, aPs_s, aPs_n, b01_0, b01_1, nI_clamp, ix_nI, inb_nI, lt_nI, eq_nI, nn_nI, eq0_nI, pk_mul, nI_add, lt_T, lt_F, if_true, if_false, true_and, and_true, neg1_nI, neg1_lt, neg1_neg, lt_neg1, eqN_F, eq_self,  h1, h2, e, Bool.not_false, Bool.not_true, Bool.true_and, Bool.false_and, Bool.and_true, Bool.and_false, Bool.or_true, Bool.or_false, Bool.true_or, Bool.false_or, Bool.true_eq_false, Bool.false_eq_true, if_true, if_false, Option.isSome_some, Option.isSome_none, Option.isNone_some, Option.isNone_none, zB_t, zB_f, nI1_0, nI0_0]
theorem c79 (H : KC h) {s i : Nat} (hs : s < 4) (hi : i < 40) {v : Int32} : aM d 79 [.ref (57 + 2 * s), .int (nI i), .int v] h Q = Q none (pI h (58 + 2 * s) i (clV (gI h (57 + 2 * s) 0) v)) := by
  unfold clV
  have e0 : nI 0 = 0 := rfl
  by_cases h1 : gI h (57 + 2 * s) 0 = nI 0
  · have h1' : gI h (57 + 2 * s) 0 = 0 := h1
    have h2 : (0 : Int32) = nI 0 := rfl
    rw [if_pos h1']
    simp (disch := first | omega | assumption | exact gtS H hs | (simp only [gT_pA, gT_pI, gT_pR]; first | assumption | exact gtS H hs) | fail) only [s79_0, s79_1, s79_4, s79_32, s79_33, s79_36, s79_37, s79_38, s79_39, s79_40, s79_43, s79_44, s79_47, s79_48, s79_49, s79_50, s79_51, s79_54, s79_55, s79_58, s79_59, s79_60, s79_61, ajS H hs, grS2 H hs, gtS H hs, am79, isRf_ref, true_and, and_true, aPs_s, aPs_n, b01_0, b01_1, nI_clamp, ix_nI, inb_nI, lt_nI, eq_nI, nn_nI, eq0_nI, pk_mul, nI_add, lt_T, lt_F, if_true, if_false, true_and, and_true, neg1_nI, neg1_lt, neg1_neg, lt_neg1, eqN_F, eq_self,  h1, hi]
  · have h1' : ¬ gI h (57 + 2 * s) 0 = 0 := h1
    rw [if_neg h1']
    by_cases h2 : gI h (57 + 2 * s) 0 = nI 1
    · rw [if_pos h2]
      have h3 : ¬ nI 1 = nI 0 := by decide
      simp (disch := first | omega | assumption | exact gtS H hs | (simp only [gT_pA, gT_pI, gT_pR]; first | assumption | exact gtS H hs) | fail) only [s79_0, s79_1, s79_4, s79_32, s79_33, s79_36, s79_37, s79_38, s79_39, s79_40, s79_43, s79_44, s79_47, s79_48, s79_49, s79_50, s79_51, s79_54, s79_55, s79_58, s79_59, s79_60, s79_61, ajS H hs, grS2 H hs, gtS H hs, am79, isRf_ref, true_and, and_true, aPs_s, aPs_n, b01_0, b01_1, nI_clamp, ix_nI, inb_nI, lt_nI, eq_nI, nn_nI, eq0_nI, pk_mul, nI_add, lt_T, lt_F, if_true, if_false, true_and, and_true, neg1_nI, neg1_lt, neg1_neg, lt_neg1, eqN_F, eq_self,  h2, h3, hi]
    · rw [if_neg h2]
      simp (disch := first | omega | assumption | exact gtS H hs | (simp only [gT_pA, gT_pI, gT_pR]; first | assumption | exact gtS H hs) | fail) only [s79_0, s79_1, s79_4, s79_32, s79_33, s79_36, s79_37, s79_38, s79_39, s79_40, s79_43, s79_44, s79_47, s79_48, s79_49, s79_50, s79_51, s79_54, s79_55, s79_58, s79_59, s79_60, s79_61, ajS H hs, grS2 H hs, gtS H hs, am79, isRf_ref, true_and, and_true, aPs_s, aPs_n, b01_0, b01_1, nI_clamp, ix_nI, inb_nI, lt_nI, eq_nI, nn_nI, eq0_nI, pk_mul, nI_add, lt_T, lt_F, if_true, if_false, true_and, and_true, neg1_nI, neg1_lt, neg1_neg, lt_neg1, eqN_F, eq_self,  h1, h2, hi]
end C23
