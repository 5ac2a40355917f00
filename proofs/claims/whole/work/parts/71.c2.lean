/-! THE CLASS: a program, what its STEPS hold -/
theorem has_bf {P : Nat → Nat → Int32} (W : okW P) {b : Nat} (hb : b < 12) : (0 < ix (P 69 b)) ↔ P 68 b ≠ 0 := by
  obtain ⟨w1, w2⟩ := W.2.1 b hb
  obtain ⟨e, _⟩ := (W.1.2.1 b hb).1
  constructor
  · intro h h0
    have := (w1 h0).1
    rw [this, ix_nI (by decide)] at h
    omega
  · intro h
    apply Nat.pos_of_ne_zero
    intro h0
    rw [h0] at e
    exact w2 h e
/-- is all that a STEP READS there -/
def mRy (P : Nat → Nat → Int32) (s D : Nat) : Bool := (fst1 (fun k => match mWr P (nRd P s k) with | some w => !tb D w | none => false) (nRc P s) 0).isNone
theorem mRdy_eq {P : Nat → Nat → Int32} {s D : Nat} : mRdy P s D = (!tb D s && mRy P s D) := rfl
def zTa (P : Nat → Nat → Int32) : Nat → Nat
  | 0 => 0
  | s + 1 => zTa P s + zT P s
theorem zTa_le {P : Nat → Nat → Int32} (V : okP P) : ∀ {n : Nat}, n ≤ nS P → zTa P n ≤ 299 * n := by
  intro n
  induction n with
  | zero => exact fun _ => Nat.le_refl _
  | succ n ih =>
    intro hn
    have := ih (by omega)
    have := (zT_le V (show n < nS P by omega)).2
    rw [zTa]
    omega
section C2
variable {d p : Nat} {h : abH} {Q : Option Value → abH → Prop}
set_option maxHeartbeats 4000000 in
theorem c44 (H : KC h) (hp : p = 5 ∨ p = 17) {P : Nat → Nat → Int32} (C : CP h p P) (W : okW P) {k : Int32} : aM d 44 [.ref p, .int k] h Q = Q (some (.int (zB (bf P k).isSome))) h := by
  unfold bf
  rcases plc_cases k 12 (by omega) with ⟨b, hb, rfl, e⟩ | ⟨e, e1, e2⟩ | ⟨e, e1, e2, e3, e4⟩
  · have el := C.l hb
    obtain ⟨t, ht, et⟩ := bn_of (W.1.2.1 b hb).1
    have hh := has_bf W hb
    rw [et, ix_nI (by omega)] at hh
    rw [et] at el
    by_cases h1 : 0 < t
    · simp (disch := first | omega | assumption | exact gtP H hp | (simp only [gT_pA, gT_pI, gT_pR]; first | assumption | exact gtP H hp) | fail) only [s44_0, s44_1, s44_4, s44_5, s44_7, s44_10, s44_11, s44_14, s44_15, s44_16, s44_19, s44_20, s44_23, s44_24, aiP_1 H hp, grP_0 H hp, gtP H hp, am44, isRf_ref, true_and, and_true, aPs_s, aPs_n, b01_0, b01_1, nI_clamp, ix_nI, inb_nI, lt_nI, eq_nI, nn_nI, eq0_nI, pk_mul, nI_add, lt_T, lt_F, if_true, if_false, true_and, and_true, neg1_nI, neg1_lt, neg1_neg, lt_neg1, eqN_F, eq_self,  hb, el, p0_nI, h1, e, eq_false (hh.mp h1), Option.isSome_some, zB_t]
    · have h0 : P 68 b = 0 := by
        apply Classical.byContradiction
        intro q
        exact h1 (hh.mpr q)
      simp (disch := first | omega | assumption | exact gtP H hp | (simp only [gT_pA, gT_pI, gT_pR]; first | assumption | exact gtP H hp) | fail) only [s44_0, s44_1, s44_4, s44_5, s44_7, s44_10, s44_11, s44_14, s44_15, s44_16, s44_19, s44_20, s44_23, s44_24, aiP_1 H hp, grP_0 H hp, gtP H hp, am44, isRf_ref, true_and, and_true, aPs_s, aPs_n, b01_0, b01_1, nI_clamp, ix_nI, inb_nI, lt_nI, eq_nI, nn_nI, eq0_nI, pk_mul, nI_add, lt_T, lt_F, if_true, if_false, true_and, and_true, neg1_nI, neg1_lt, neg1_neg, lt_neg1, eqN_F, eq_self,  hb, el, p0_nI, h1, e, eq_true h0, Option.isSome_none, zB_f]
  · simp (disch := first | omega | assumption | exact gtP H hp | (simp only [gT_pA, gT_pI, gT_pR]; first | assumption | exact gtP H hp) | fail) only [s44_0, s44_1, s44_4, s44_5, s44_7, s44_10, s44_11, s44_14, s44_15, s44_16, s44_19, s44_20, s44_23, s44_24, aiP_1 H hp, grP_0 H hp, gtP H hp, am44, isRf_ref, true_and, and_true, aPs_s, aPs_n, b01_0, b01_1, nI_clamp, ix_nI, inb_nI, lt_nI, eq_nI, nn_nI, eq0_nI, pk_mul, nI_add, lt_T, lt_F, if_true, if_false, true_and, and_true, neg1_nI, neg1_lt, neg1_neg, lt_neg1, eqN_F, eq_self,  e, e1, Bool.not_false, Bool.not_true, Bool.true_and, Bool.false_and, Bool.and_true, Bool.and_false, Bool.or_true, Bool.or_false, Bool.true_or, Bool.false_or, Bool.true_eq_false, Bool.false_eq_true, if_true, if_false, Option.isSome_some, Option.isSome_none, Option.isNone_some, Option.isNone_none, zB_t, zB_f, nI1_0, nI0_0]
  · simp (disch := first | omega | assumption | exact gtP H hp | (simp only [gT_pA, gT_pI, gT_pR]; first | assumption | exact gtP H hp) | fail) only [s44_0, s44_1, s44_4, s44_5, s44_7, s44_10, s44_11, s44_14, s44_15, s44_16, s44_19, s44_20, s44_23, s44_24, aiP_1 H hp, grP_0 H hp, gtP H hp, am44, isRf_ref, true_and, and_true, aPs_s, aPs_n, b01_0, b01_1, nI_clamp, ix_nI, inb_nI, lt_nI, eq_nI, nn_nI, eq0_nI, pk_mul, nI_add, lt_T, lt_F, if_true, if_false, true_and, and_true, neg1_nI, neg1_lt, neg1_neg, lt_neg1, eqN_F, eq_self,  e, e1, e3, Bool.not_false, Bool.not_true, Bool.true_and, Bool.false_and, Bool.and_true, Bool.and_false, Bool.or_true, Bool.or_false, Bool.true_or, Bool.false_or, Bool.true_eq_false, Bool.false_eq_true, if_true, if_false, Option.isSome_some, Option.isSome_none, Option.isNone_some, Option.isNone_none, zB_t, zB_f, nI1_0, nI0_0]
theorem c45 (H : KC h) (hp : p = 5 ∨ p = 17) {n : Nat} (hn : n < 2 ^ 31) (hs : gI h p 6 = nI n) {k : Int32} : aM d 45 [.ref p, .int k] h Q = Q (some (.int (zB (plc k n).isSome))) h := by
  rcases plc_cases k n hn with ⟨b, hb, rfl, e⟩ | ⟨e, e1, e2⟩ | ⟨e, e1, e2, e3, e4⟩
  · simp (disch := first | omega | assumption | exact gtP H hp | (simp only [gT_pA, gT_pI, gT_pR]; first | assumption | exact gtP H hp) | fail) only [s45_0, s45_1, s45_4, s45_5, s45_6, s45_9, s45_12, s45_13, s45_16, s45_17, gtP H hp, am45, isRf_ref, true_and, and_true, aPs_s, aPs_n, b01_0, b01_1, nI_clamp, ix_nI, inb_nI, lt_nI, eq_nI, nn_nI, eq0_nI, pk_mul, nI_add, lt_T, lt_F, if_true, if_false, true_and, and_true, neg1_nI, neg1_lt, neg1_neg, lt_neg1, eqN_F, eq_self,  hs, hb, e, Bool.not_false, Bool.not_true, Bool.true_and, Bool.false_and, Bool.and_true, Bool.and_false, Bool.or_true, Bool.or_false, Bool.true_or, Bool.false_or, Bool.true_eq_false, Bool.false_eq_true, if_true, if_false, Option.isSome_some, Option.isSome_none, Option.isNone_some, Option.isNone_none, zB_t, zB_f, nI1_0, nI0_0]
  · simp (disch := first | omega | assumption | exact gtP H hp | (simp only [gT_pA, gT_pI, gT_pR]; first | assumption | exact gtP H hp) | fail) only [s45_0, s45_1, s45_4, s45_5, s45_6, s45_9, s45_12, s45_13, s45_16, s45_17, gtP H hp, am45, isRf_ref, true_and, and_true, aPs_s, aPs_n, b01_0, b01_1, nI_clamp, ix_nI, inb_nI, lt_nI, eq_nI, nn_nI, eq0_nI, pk_mul, nI_add, lt_T, lt_F, if_true, if_false, true_and, and_true, neg1_nI, neg1_lt, neg1_neg, lt_neg1, eqN_F, eq_self,  hs, e, e1, Bool.not_false, Bool.not_true, Bool.true_and, Bool.false_and, Bool.and_true, Bool.and_false, Bool.or_true, Bool.or_false, Bool.true_or, Bool.false_or, Bool.true_eq_false, Bool.false_eq_true, if_true, if_false, Option.isSome_some, Option.isSome_none, Option.isNone_some, Option.isNone_none, zB_t, zB_f, nI1_0, nI0_0]
  · simp (disch := first | omega | assumption | exact gtP H hp | (simp only [gT_pA, gT_pI, gT_pR]; first | assumption | exact gtP H hp) | fail) only [s45_0, s45_1, s45_4, s45_5, s45_6, s45_9, s45_12, s45_13, s45_16, s45_17, gtP H hp, am45, isRf_ref, true_and, and_true, aPs_s, aPs_n, b01_0, b01_1, nI_clamp, ix_nI, inb_nI, lt_nI, eq_nI, nn_nI, eq0_nI, pk_mul, nI_add, lt_T, lt_F, if_true, if_false, true_and, and_true, neg1_nI, neg1_lt, neg1_neg, lt_neg1, eqN_F, eq_self,  hs, e, e1, e3, Bool.not_false, Bool.not_true, Bool.true_and, Bool.false_and, Bool.and_true, Bool.and_false, Bool.or_true, Bool.or_false, Bool.true_or, Bool.false_or, Bool.true_eq_false, Bool.false_eq_true, if_true, if_false, Option.isSome_some, Option.isSome_none, Option.isNone_some, Option.isNone_none, zB_t, zB_f, nI1_0, nI0_0]
theorem c50 (H : KC h) (hp : p = 5 ∨ p = 17) {R : Nat} (hR : R < 2 ^ 31) {b s : Nat} (hb : b < 12) (hs : s < 31) (hm : gI h (p + 6) b = nI R) : aM d 50 [.ref p, .int (nI b), .int (nI s)] h Q = Q (some (.int (zB (tb R s)))) h := by
  rcases Bool.eq_false_or_eq_true (tb R s) with g | g <;> simp (disch := first | omega | assumption | exact gtP H hp | (simp only [gT_pA, gT_pI, gT_pR]; first | assumption | exact gtP H hp) | fail) only [s50_0, s50_1, s50_4, s50_5, s50_6, s50_7, s50_8, s50_9, s50_10, s50_13, s50_14, s50_17, s50_18, aiP_6 H hp, grP_5 H hp, gtP H hp, am50, isRf_ref, true_and, and_true, aPs_s, aPs_n, b01_0, b01_1, nI_clamp, ix_nI, inb_nI, lt_nI, eq_nI, nn_nI, eq0_nI, pk_mul, nI_add, lt_T, lt_F, if_true, if_false, true_and, and_true, neg1_nI, neg1_lt, neg1_neg, lt_neg1, eqN_F, eq_self,  hb, hm, bit_0, g, Bool.not_false, Bool.not_true, Bool.true_and, Bool.false_and, Bool.and_true, Bool.and_false, Bool.or_true, Bool.or_false, Bool.true_or, Bool.false_or, Bool.true_eq_false, Bool.false_eq_true, if_true, if_false, Option.isSome_some, Option.isSome_none, Option.isNone_some, Option.isNone_none, zB_t, zB_f, nI1_0, nI0_0]
set_option maxHeartbeats 4000000 in
theorem c51 (H : KC h) (hp : p = 5 ∨ p = 17) {P : Nat → Nat → Int32} (C : CP h p P) (V : okP P) (hw : ∀ l, l < 4 → gI h 52 l = P 67 l) {b : Nat} (hb : b < 12) : aM d 51 [.ref p, .int (nI b), .ref 52] h Q = Q (some (.int (nI (zS P b)))) h := by
  obtain ⟨T, hT, eT⟩ := bn_of (V.2.1 b hb).1
  have el := C.l hb
  rw [eT] at el
  have hx : ix (P 69 b) = T := by rw [eT, ix_nI (by omega)]
  have hz : zS P b = zSz P b T := by unfold zS; rw [hx]
  have h52 := ai_52 H
  rw [hz]
  have loop := for_0 (F := fun k => aW d 51 7 [.ref p, .int (nI b), .ref 52, .int (nI (zSz P b k)), .int (nI (4 * b + k))] [] h Q) (R := Q (some (.int (nI (zSz P b T)))) h) T (by
    have h1 : ¬ 4 * b + T < 4 * b + T := Nat.lt_irrefl _
    rw [s51_7]
    simp (disch := first | omega | assumption | exact gtP H hp | (simp only [gT_pA, gT_pI, gT_pR]; first | assumption | exact gtP H hp) | fail) only [s51_0, s51_1, s51_2, s51_3, s51_4, s51_5, s51_9, s51_10, s51_11, s51_12, s51_13, s51_16, s51_17, s51_18, s51_19, s51_22, s51_23, s51_24, s51_27, s51_29, s51_30, s51_33, s51_34, s51_37, s51_39, s51_40, s51_43, s51_44, s51_47, s51_49, s51_50, s51_51, s51_52, s51_55, s51_57, s51_58, s51_59, s51_60, s51_61, s51_62, s51_65, s51_68, s51_69, aiP_1 H hp, aiP_2 H hp, aiP_3 H hp, grP_0 H hp, grP_1 H hp, grP_2 H hp, gtP H hp, am51, isRf_ref, true_and, and_true, aPs_s, aPs_n, b01_0, b01_1, nI_clamp, ix_nI, inb_nI, lt_nI, eq_nI, nn_nI, eq0_nI, pk_mul, nI_add, lt_T, lt_F, if_true, if_false, true_and, and_true, neg1_nI, neg1_lt, neg1_neg, lt_neg1, eqN_F, eq_self,  hb, el, Nat.mul_comm b 4, h1]) (fun k hk => by
    have h1 : 4 * b + k < 4 * b + T := by omega
    obtain ⟨c1, c2⟩ := C.2.2.1 b hb k (by rw [hx]; exact hk)
    obtain ⟨v1, v2⟩ := (V.2.1 b hb).2.2.2 k (by rw [hx]; exact hk)
    obtain ⟨n, hn, en⟩ := bn_of v2
    have z1 := zSz_ok V hb (k := k + 1) (by rw [hx]; omega)
    have z0 := zSz_ok V hb (k := k) (by rw [hx]; omega)
    rw [mSz, z0.1] at z1
    rw [s51_7]
    rcases v1 with g | g
    · rw [g] at c2
      have e1 : nI (zSz P b k) + P 70 (4 * b + k) * nI 1 = nI (zSz P b (k + 1)) := by rw [← z1.1, if_pos g]
      rw [en] at e1 c1
      have e2 : nI n * nI 1 = nI n := by rw [pk_mul, Nat.mul_one]
      rw [e2, nI_add] at e1
      simp (disch := first | omega | assumption | exact gtP H hp | (simp only [gT_pA, gT_pI, gT_pR]; first | assumption | exact gtP H hp) | fail) only [s51_0, s51_1, s51_2, s51_3, s51_4, s51_5, s51_9, s51_10, s51_11, s51_12, s51_13, s51_16, s51_17, s51_18, s51_19, s51_22, s51_23, s51_24, s51_27, s51_29, s51_30, s51_33, s51_34, s51_37, s51_39, s51_40, s51_43, s51_44, s51_47, s51_49, s51_50, s51_51, s51_52, s51_55, s51_57, s51_58, s51_59, s51_60, s51_61, s51_62, s51_65, s51_68, s51_69, aiP_1 H hp, aiP_2 H hp, aiP_3 H hp, grP_0 H hp, grP_1 H hp, grP_2 H hp, gtP H hp, am51, isRf_ref, true_and, and_true, aPs_s, aPs_n, b01_0, b01_1, nI_clamp, ix_nI, inb_nI, lt_nI, eq_nI, nn_nI, eq0_nI, pk_mul, nI_add, lt_T, lt_F, if_true, if_false, true_and, and_true, neg1_nI, neg1_lt, neg1_neg, lt_neg1, eqN_F, eq_self,  hb, el, Nat.mul_comm b 4, h1, c1, c2, iflt_m1, e1, Nat.add_assoc]
    · obtain ⟨l, hl, el2⟩ := bn_of g
      rw [el2] at c2
      have hl2 := hw l hl
      obtain ⟨w, hw2, ew⟩ := bn_of (V.2.2.2 l hl)
      rw [ew] at hl2
      have g1 : ¬ P 71 (4 * b + k) = -1 := by
        intro q
        rw [el2] at q
        exact (by rw [← neg1_nI (show l < 2 ^ 31 by omega)]; exact q : False)
      have e1 : nI (zSz P b k) + P 70 (4 * b + k) * P 67 l = nI (zSz P b (k + 1)) := by
        rw [← z1.1, if_neg g1, el2, ix_nI (by omega)]
      rw [en, ew, pk_mul, nI_add] at e1
      rw [en] at c1
      simp (disch := first | omega | assumption | exact gtP H hp | (simp only [gT_pA, gT_pI, gT_pR]; first | assumption | exact gtP H hp) | fail) only [s51_0, s51_1, s51_2, s51_3, s51_4, s51_5, s51_9, s51_10, s51_11, s51_12, s51_13, s51_16, s51_17, s51_18, s51_19, s51_22, s51_23, s51_24, s51_27, s51_29, s51_30, s51_33, s51_34, s51_37, s51_39, s51_40, s51_43, s51_44, s51_47, s51_49, s51_50, s51_51, s51_52, s51_55, s51_57, s51_58, s51_59, s51_60, s51_61, s51_62, s51_65, s51_68, s51_69, aiP_1 H hp, aiP_2 H hp, aiP_3 H hp, grP_0 H hp, grP_1 H hp, grP_2 H hp, gtP H hp, am51, isRf_ref, true_and, and_true, aPs_s, aPs_n, b01_0, b01_1, nI_clamp, ix_nI, inb_nI, lt_nI, eq_nI, nn_nI, eq0_nI, pk_mul, nI_add, lt_T, lt_F, if_true, if_false, true_and, and_true, neg1_nI, neg1_lt, neg1_neg, lt_neg1, eqN_F, eq_self,  hb, el, Nat.mul_comm b 4, h1, c1, c2, hl, h52, hl2, e1, Nat.add_assoc])
  simp (disch := first | omega | assumption | exact gtP H hp | (simp only [gT_pA, gT_pI, gT_pR]; first | assumption | exact gtP H hp) | fail) only [s51_0, s51_1, s51_2, s51_3, s51_4, s51_5, s51_9, s51_10, s51_11, s51_12, s51_13, s51_16, s51_17, s51_18, s51_19, s51_22, s51_23, s51_24, s51_27, s51_29, s51_30, s51_33, s51_34, s51_37, s51_39, s51_40, s51_43, s51_44, s51_47, s51_49, s51_50, s51_51, s51_52, s51_55, s51_57, s51_58, s51_59, s51_60, s51_61, s51_62, s51_65, s51_68, s51_69, aiP_1 H hp, aiP_2 H hp, aiP_3 H hp, grP_0 H hp, grP_1 H hp, grP_2 H hp, gtP H hp, am51, isRf_ref, true_and, and_true, aPs_s, aPs_n, b01_0, b01_1, nI_clamp, ix_nI, inb_nI, lt_nI, eq_nI, nn_nI, eq0_nI, pk_mul, nI_add, lt_T, lt_F, if_true, if_false, true_and, and_true, neg1_nI, neg1_lt, neg1_neg, lt_neg1, eqN_F, eq_self,  Nat.mul_comm b 4]
  exact loop
theorem c52 (H : KC h) (hp : p = 5 ∨ p = 17) {P : Nat → Nat → Int32} (C : CP h p P) (V : okP P) {s : Nat} (hs : s < nS P) : aM (d + 1) 52 [.ref p, .int (nI s)] h Q = Q (some (.int (nI (zT P s)))) h := by
  have s10 := V.s.1
  have e1 := C.k V hs
  have e2 := C.t V hs
  have hk := (V.k hs).2
  have hz := (zT_le V hs).1
  rw [(V.k hs).1, (V.t hs).1] at hz
  have c23' : ∀ Q', aM d 23 [.int (nI (nK P s)), .int (nI (nT P s))] h Q' = Q' (some (.int (nI (zT P s)))) h := fun Q' => by rw [show nK P s = ix (P 73 s) from rfl, c23 hk, hz]
  simp (disch := first | omega | assumption | exact gtP H hp | (simp only [gT_pA, gT_pI, gT_pR]; first | assumption | exact gtP H hp) | fail) only [s52_0, s52_1, s52_4, s52_5, s52_6, s52_7, s52_10, s52_11, s52_12, s52_15, aiP_7 H hp, aiP_8 H hp, grP_7 H hp, grP_8 H hp, gtP H hp, am52, isRf_ref, true_and, and_true, aPs_s, aPs_n, b01_0, b01_1, nI_clamp, ix_nI, inb_nI, lt_nI, eq_nI, nn_nI, eq0_nI, pk_mul, nI_add, lt_T, lt_F, if_true, if_false, true_and, and_true, neg1_nI, neg1_lt, neg1_neg, lt_neg1, eqN_F, eq_self,  e1, e2, c23']
theorem c53 (H : KC h) (hp : p = 5 ∨ p = 17) {P : Nat → Nat → Int32} (C : CP h p P) (V : okP P) : aM (d + 2) 53 [.ref p] h Q = Q (some (.int (nI (zTa P (nS P))))) h := by
  have s10 := V.s.1
  have e4 := C.s
  have loop := for_0 (F := fun s => aW (d + 2) 53 4 [.ref p, .int (nI (zTa P s)), .int (nI s)] [] h Q) (R := Q (some (.int (nI (zTa P (nS P))))) h) (nS P) (by
    rw [s53_4]
    simp (disch := first | omega | assumption | exact gtP H hp | (simp only [gT_pA, gT_pI, gT_pR]; first | assumption | exact gtP H hp) | fail) only [s53_0, s53_1, s53_2, s53_3, s53_5, s53_6, s53_9, s53_12, s53_13, s53_14, s53_15, s53_18, s53_19, s53_20, s53_23, s53_26, s53_27, gtP H hp, am53, isRf_ref, true_and, and_true, aPs_s, aPs_n, b01_0, b01_1, nI_clamp, ix_nI, inb_nI, lt_nI, eq_nI, nn_nI, eq0_nI, pk_mul, nI_add, lt_T, lt_F, if_true, if_false, true_and, and_true, neg1_nI, neg1_lt, neg1_neg, lt_neg1, eqN_F, eq_self,  e4, Nat.lt_irrefl]) (fun s hs => by
    have c52' : ∀ Q', aM (d + 1) 52 [.ref p, .int (nI s)] h Q' = Q' (some (.int (nI (zT P s)))) h := fun Q' => c52 H hp C V hs
    rw [s53_4]
    simp (disch := first | omega | assumption | exact gtP H hp | (simp only [gT_pA, gT_pI, gT_pR]; first | assumption | exact gtP H hp) | fail) only [s53_0, s53_1, s53_2, s53_3, s53_5, s53_6, s53_9, s53_12, s53_13, s53_14, s53_15, s53_18, s53_19, s53_20, s53_23, s53_26, s53_27, gtP H hp, am53, isRf_ref, true_and, and_true, aPs_s, aPs_n, b01_0, b01_1, nI_clamp, ix_nI, inb_nI, lt_nI, eq_nI, nn_nI, eq0_nI, pk_mul, nI_add, lt_T, lt_F, if_true, if_false, true_and, and_true, neg1_nI, neg1_lt, neg1_neg, lt_neg1, eqN_F, eq_self,  e4, hs, c52']
    rfl)
  simp (disch := first | omega | assumption | exact gtP H hp | (simp only [gT_pA, gT_pI, gT_pR]; first | assumption | exact gtP H hp) | fail) only [s53_0, s53_1, s53_2, s53_3, s53_5, s53_6, s53_9, s53_12, s53_13, s53_14, s53_15, s53_18, s53_19, s53_20, s53_23, s53_26, s53_27, gtP H hp, am53, isRf_ref, true_and, and_true, aPs_s, aPs_n, b01_0, b01_1, nI_clamp, ix_nI, inb_nI, lt_nI, eq_nI, nn_nI, eq0_nI, pk_mul, nI_add, lt_T, lt_F, if_true, if_false, true_and, and_true, neg1_nI, neg1_lt, neg1_neg, lt_neg1, eqN_F, eq_self, ]
  exact loop
set_option maxHeartbeats 4000000 in
theorem c54 (H : KC h) (hp : p = 5 ∨ p = 17) {P : Nat → Nat → Int32} (C : CP h p P) (V : okP P) {s D : Nat} (hs : s < nS P) (hD : D < 1024) : aM d 54 [.ref p, .int (nI s), .int (nI D)] h Q = Q (some (.int (zB (mRy P s D)))) h := by
  have s10 := V.s.1
  have ec := C.c V hs
  have hc := (V.c hs).2
  have loop := for_ds (σ := Value) (F := fun k x => aW d 54 4 [.ref p, .int (nI s), .int (nI D), .int (nI (4 * s + k)), x] [] h Q) (R := fun k => Q (some (.int (zB (fst1 (fun k => match mWr P (nRd P s k) with | some w => !tb D w | none => false) (nRc P s - k) k).isNone))) h) (nRc P s) (fun x => by
    have h1 : ¬ 4 * s + nRc P s < 4 * s + nRc P s := Nat.lt_irrefl _
    rw [s54_4, fst1_end]
    simp (disch := first | omega | assumption | exact gtP H hp | (simp only [gT_pA, gT_pI, gT_pR]; first | assumption | exact gtP H hp) | fail) only [s54_0, s54_1, s54_2, s54_3, s54_5, s54_6, s54_7, s54_8, s54_9, s54_12, s54_13, s54_14, s54_15, s54_18, s54_19, s54_22, s54_23, s54_26, s54_27, s54_28, s54_29, s54_31, s54_33, s54_36, s54_37, s54_39, s54_40, s54_41, s54_42, s54_45, s54_46, s54_47, s54_50, s54_53, s54_54, aiP_10 H hp, aiP_11 H hp, aiP_5 H hp, grP_10 H hp, grP_11 H hp, grP_4 H hp, gtP H hp, am54, isRf_ref, true_and, and_true, aPs_s, aPs_n, b01_0, b01_1, nI_clamp, ix_nI, inb_nI, lt_nI, eq_nI, nn_nI, eq0_nI, pk_mul, nI_add, lt_T, lt_F, if_true, if_false, true_and, and_true, neg1_nI, neg1_lt, neg1_neg, lt_neg1, eqN_F, eq_self,  ec, Nat.mul_comm s 4, h1, Bool.not_false, Bool.not_true, Bool.true_and, Bool.false_and, Bool.and_true, Bool.and_false, Bool.or_true, Bool.or_false, Bool.true_or, Bool.false_or, Bool.true_eq_false, Bool.false_eq_true, if_true, if_false, Option.isSome_some, Option.isSome_none, Option.isNone_some, Option.isNone_none, zB_t, zB_f, nI1_0, nI0_0]) (fun k hk ih x => by
    have h1 : 4 * s + k < 4 * s + nRc P s := by omega
    have er := C.r V hs hk
    have hr := (V.r hs hk).2
    have ex := C.x hr
    have ih' : ∀ x, aW d 54 4 [.ref p, .int (nI s), .int (nI D), .int (nI (4 * s + k + 1)), x] [] h Q = Q (some (.int (zB (fst1 (fun k => match mWr P (nRd P s k) with | some w => !tb D w | none => false) (nRc P s - (k + 1)) (k + 1)).isNone))) h := ih
    rw [s54_4, fst1_step hk]
    cases hq : mWr P (nRd P s k) with
    | none =>
      rw [hq] at ex
      simp (disch := first | omega | assumption | exact gtP H hp | (simp only [gT_pA, gT_pI, gT_pR]; first | assumption | exact gtP H hp) | fail) only [s54_0, s54_1, s54_2, s54_3, s54_5, s54_6, s54_7, s54_8, s54_9, s54_12, s54_13, s54_14, s54_15, s54_18, s54_19, s54_22, s54_23, s54_26, s54_27, s54_28, s54_29, s54_31, s54_33, s54_36, s54_37, s54_39, s54_40, s54_41, s54_42, s54_45, s54_46, s54_47, s54_50, s54_53, s54_54, aiP_10 H hp, aiP_11 H hp, aiP_5 H hp, grP_10 H hp, grP_11 H hp, grP_4 H hp, gtP H hp, am54, isRf_ref, true_and, and_true, aPs_s, aPs_n, b01_0, b01_1, nI_clamp, ix_nI, inb_nI, lt_nI, eq_nI, nn_nI, eq0_nI, pk_mul, nI_add, lt_T, lt_F, if_true, if_false, true_and, and_true, neg1_nI, neg1_lt, neg1_neg, lt_neg1, eqN_F, eq_self,  ec, Nat.mul_comm s 4, h1, er, hr, ex, oI_n, iflt_m1, ih', Bool.not_false, Bool.not_true, Bool.true_and, Bool.false_and, Bool.and_true, Bool.and_false, Bool.or_true, Bool.or_false, Bool.true_or, Bool.false_or, Bool.true_eq_false, Bool.false_eq_true, if_true, if_false, Option.isSome_some, Option.isSome_none, Option.isNone_some, Option.isNone_none, zB_t, zB_f, nI1_0, nI0_0]
    | some w =>
      rw [hq] at ex
      have hw := mWr_lt hq
      rcases Bool.eq_false_or_eq_true (tb D w) with g | g <;> simp (disch := first | omega | assumption | exact gtP H hp | (simp only [gT_pA, gT_pI, gT_pR]; first | assumption | exact gtP H hp) | fail) only [s54_0, s54_1, s54_2, s54_3, s54_5, s54_6, s54_7, s54_8, s54_9, s54_12, s54_13, s54_14, s54_15, s54_18, s54_19, s54_22, s54_23, s54_26, s54_27, s54_28, s54_29, s54_31, s54_33, s54_36, s54_37, s54_39, s54_40, s54_41, s54_42, s54_45, s54_46, s54_47, s54_50, s54_53, s54_54, aiP_10 H hp, aiP_11 H hp, aiP_5 H hp, grP_10 H hp, grP_11 H hp, grP_4 H hp, gtP H hp, am54, isRf_ref, true_and, and_true, aPs_s, aPs_n, b01_0, b01_1, nI_clamp, ix_nI, inb_nI, lt_nI, eq_nI, nn_nI, eq0_nI, pk_mul, nI_add, lt_T, lt_F, if_true, if_false, true_and, and_true, neg1_nI, neg1_lt, neg1_neg, lt_neg1, eqN_F, eq_self,  ec, Nat.mul_comm s 4, h1, er, hr, ex, oI_s, bit_0, g, ih', Bool.not_false, Bool.not_true, Bool.true_and, Bool.false_and, Bool.and_true, Bool.and_false, Bool.or_true, Bool.or_false, Bool.true_or, Bool.false_or, Bool.true_eq_false, Bool.false_eq_true, if_true, if_false, Option.isSome_some, Option.isSome_none, Option.isNone_some, Option.isNone_none, zB_t, zB_f, nI1_0, nI0_0])
  simp (disch := first | omega | assumption | exact gtP H hp | (simp only [gT_pA, gT_pI, gT_pR]; first | assumption | exact gtP H hp) | fail) only [s54_0, s54_1, s54_2, s54_3, s54_5, s54_6, s54_7, s54_8, s54_9, s54_12, s54_13, s54_14, s54_15, s54_18, s54_19, s54_22, s54_23, s54_26, s54_27, s54_28, s54_29, s54_31, s54_33, s54_36, s54_37, s54_39, s54_40, s54_41, s54_42, s54_45, s54_46, s54_47, s54_50, s54_53, s54_54, aiP_10 H hp, aiP_11 H hp, aiP_5 H hp, grP_10 H hp, grP_11 H hp, grP_4 H hp, gtP H hp, am54, isRf_ref, true_and, and_true, aPs_s, aPs_n, b01_0, b01_1, nI_clamp, ix_nI, inb_nI, lt_nI, eq_nI, nn_nI, eq0_nI, pk_mul, nI_add, lt_T, lt_F, if_true, if_false, true_and, and_true, neg1_nI, neg1_lt, neg1_neg, lt_neg1, eqN_F, eq_self,  Nat.mul_comm s 4]
  exact loop 0 (Nat.zero_le _) _
end C2
