/-! BOTH SIDES, call by call: HEIGHT, SENT OUT -/
section R5
variable {d : Nat} {h0 h : abH} {Q : Option Value → abH → Prop}
set_option maxHeartbeats 8000000 in
theorem c136 (H : KC h) {p : Nat} (hp : p = 5 ∨ p = 17) (r21 : gR h 2 1 = .ref p) {P : Nat → Nat → Int32} (W : okW P) (C : CP h p P) (r9 : R9 h) {k : Int32} : aM (d + 1) 136 [.ref 2, .int k] h Q = Q (some (.int (brI P h k))) h := by
  have c129' : ∀ Q', aM d 129 [.int k] h Q' = Q' (some (.int (zB (plc k 4).isSome))) h := fun Q' => c129
  unfold brI
  rcases plc_or k 4 (by omega) with ⟨s, hs, rfl, e⟩ | e
  · rw [e] at c129' ⊢
    obtain ⟨e0, e1, -, e3, e4⟩ := r9 s hs
    obtain ⟨z, hz1, hz2⟩ := bn_of e3
    have gs := grS H hs
    have g56 := gt_56 H
    rw [hz2] at e1
    dsimp only
    by_cases h1 : gI h 94 s = -1
    · simp (disch := first | omega | assumption | exact gtP H hp | exact gtS H hs | exact gt_2 H | (simp only [gT_pA, gT_pI, gT_pR]; first | assumption | exact gtP H hp | exact gtS H hs | exact gt_2 H) | fail) only [s136_0, s136_1, s136_4, s136_7, s136_9, s136_10, s136_11, s136_14, s136_15, s136_16, s136_17, s136_18, s136_21, s136_22, s136_25, s136_27, s136_28, s136_29, s136_32, s136_34, s136_37, s136_39, s136_40, s136_41, s136_43, s136_44, s136_47, s136_50, s136_51, s136_54, s136_55, s136_58, s136_59, s136_60, s136_63, s136_66, s136_68, s136_69, s136_72, s136_75, s136_76, aiS H hs, aq_56 H, grS H hs, grS2 H hs, gr_2_12 H, gtP H hp, gtS H hs, gt_2 H, am136, isRf_ref, true_and, and_true, aPs_s, aPs_n, b01_0, b01_1, nI_clamp, ix_nI, inb_nI, lt_nI, eq_nI, nn_nI, eq0_nI, pk_mul, nI_add, lt_T, lt_F, if_true, if_false, true_and, and_true, neg1_nI, neg1_lt, neg1_neg, lt_neg1, eqN_F, eq_self,  c129', Option.isSome_some, Bool.not_false, Bool.not_true, Bool.true_and, Bool.false_and, Bool.and_true, Bool.and_false, Bool.or_true, Bool.or_false, Bool.true_or, Bool.false_or, Bool.true_eq_false, Bool.false_eq_true, if_true, if_false, Option.isSome_some, Option.isSome_none, Option.isNone_some, Option.isNone_none, zB_t, zB_f, nI1_0, nI0_0, hs, gs, e0, h1]
    · by_cases h2 : 6 < z
      · simp (disch := first | omega | assumption | exact gtP H hp | exact gtS H hs | exact gt_2 H | (simp only [gT_pA, gT_pI, gT_pR]; first | assumption | exact gtP H hp | exact gtS H hs | exact gt_2 H) | fail) only [s136_0, s136_1, s136_4, s136_7, s136_9, s136_10, s136_11, s136_14, s136_15, s136_16, s136_17, s136_18, s136_21, s136_22, s136_25, s136_27, s136_28, s136_29, s136_32, s136_34, s136_37, s136_39, s136_40, s136_41, s136_43, s136_44, s136_47, s136_50, s136_51, s136_54, s136_55, s136_58, s136_59, s136_60, s136_63, s136_66, s136_68, s136_69, s136_72, s136_75, s136_76, aiS H hs, aq_56 H, grS H hs, grS2 H hs, gr_2_12 H, gtP H hp, gtS H hs, gt_2 H, am136, isRf_ref, true_and, and_true, aPs_s, aPs_n, b01_0, b01_1, nI_clamp, ix_nI, inb_nI, lt_nI, eq_nI, nn_nI, eq0_nI, pk_mul, nI_add, lt_T, lt_F, if_true, if_false, true_and, and_true, neg1_nI, neg1_lt, neg1_neg, lt_neg1, eqN_F, eq_self,  c129', Option.isSome_some, Bool.not_false, Bool.not_true, Bool.true_and, Bool.false_and, Bool.and_true, Bool.and_false, Bool.or_true, Bool.or_false, Bool.true_or, Bool.false_or, Bool.true_eq_false, Bool.false_eq_true, if_true, if_false, Option.isSome_some, Option.isSome_none, Option.isNone_some, Option.isNone_none, zB_t, zB_f, nI1_0, nI0_0, hs, gs, e0, e1, h1, h2, hz2]
      · have loop := for_dn (F := fun i => aW (d + 1) 136 42 [.ref 2, .int (nI s), .ref (57 + 2 * s), .int (nI i)] [] h Q) (R := fun i => Q (some (.int (match fst1 (fun i => (bf P (cRow h s i)).isNone) (z - i) i with
          | none => nI 0
          | some _ => -2))) h) z (by
          rw [s136_42, fst1_end]
          simp (disch := first | omega | assumption | exact gtP H hp | exact gtS H hs | exact gt_2 H | (simp only [gT_pA, gT_pI, gT_pR]; first | assumption | exact gtP H hp | exact gtS H hs | exact gt_2 H) | fail) only [s136_0, s136_1, s136_4, s136_7, s136_9, s136_10, s136_11, s136_14, s136_15, s136_16, s136_17, s136_18, s136_21, s136_22, s136_25, s136_27, s136_28, s136_29, s136_32, s136_34, s136_37, s136_39, s136_40, s136_41, s136_43, s136_44, s136_47, s136_50, s136_51, s136_54, s136_55, s136_58, s136_59, s136_60, s136_63, s136_66, s136_68, s136_69, s136_72, s136_75, s136_76, aiS H hs, aq_56 H, grS H hs, grS2 H hs, gr_2_12 H, gtP H hp, gtS H hs, gt_2 H, am136, isRf_ref, true_and, and_true, aPs_s, aPs_n, b01_0, b01_1, nI_clamp, ix_nI, inb_nI, lt_nI, eq_nI, nn_nI, eq0_nI, pk_mul, nI_add, lt_T, lt_F, if_true, if_false, true_and, and_true, neg1_nI, neg1_lt, neg1_neg, lt_neg1, eqN_F, eq_self,  e1, Nat.lt_irrefl]) (fun i hi ih => by
          have c44' : ∀ Q', aM d 44 [.ref p, .int (gI h 96 (40 * s + i))] h Q' = Q' (some (.int (zB (bf P (cRow h s i)).isSome))) h := fun Q' => c44 H hp C W
          have ec := e4 i (by omega)
          rw [s136_42, fst1_step hi]
          cases hb : bf P (cRow h s i) with
          | none => simp (disch := first | omega | assumption | exact gtP H hp | exact gtS H hs | exact gt_2 H | (simp only [gT_pA, gT_pI, gT_pR]; first | assumption | exact gtP H hp | exact gtS H hs | exact gt_2 H) | fail) only [s136_0, s136_1, s136_4, s136_7, s136_9, s136_10, s136_11, s136_14, s136_15, s136_16, s136_17, s136_18, s136_21, s136_22, s136_25, s136_27, s136_28, s136_29, s136_32, s136_34, s136_37, s136_39, s136_40, s136_41, s136_43, s136_44, s136_47, s136_50, s136_51, s136_54, s136_55, s136_58, s136_59, s136_60, s136_63, s136_66, s136_68, s136_69, s136_72, s136_75, s136_76, aiS H hs, aq_56 H, grS H hs, grS2 H hs, gr_2_12 H, gtP H hp, gtS H hs, gt_2 H, am136, isRf_ref, true_and, and_true, aPs_s, aPs_n, b01_0, b01_1, nI_clamp, ix_nI, inb_nI, lt_nI, eq_nI, nn_nI, eq0_nI, pk_mul, nI_add, lt_T, lt_F, if_true, if_false, true_and, and_true, neg1_nI, neg1_lt, neg1_neg, lt_neg1, eqN_F, eq_self,  e1, hi, r21, ec, c44', hb, Bool.not_false, Bool.not_true, Bool.true_and, Bool.false_and, Bool.and_true, Bool.and_false, Bool.or_true, Bool.or_false, Bool.true_or, Bool.false_or, Bool.true_eq_false, Bool.false_eq_true, if_true, if_false, Option.isSome_some, Option.isSome_none, Option.isNone_some, Option.isNone_none, zB_t, zB_f, nI1_0, nI0_0, show i < 40 by omega]
          | some b => simp (disch := first | omega | assumption | exact gtP H hp | exact gtS H hs | exact gt_2 H | (simp only [gT_pA, gT_pI, gT_pR]; first | assumption | exact gtP H hp | exact gtS H hs | exact gt_2 H) | fail) only [s136_0, s136_1, s136_4, s136_7, s136_9, s136_10, s136_11, s136_14, s136_15, s136_16, s136_17, s136_18, s136_21, s136_22, s136_25, s136_27, s136_28, s136_29, s136_32, s136_34, s136_37, s136_39, s136_40, s136_41, s136_43, s136_44, s136_47, s136_50, s136_51, s136_54, s136_55, s136_58, s136_59, s136_60, s136_63, s136_66, s136_68, s136_69, s136_72, s136_75, s136_76, aiS H hs, aq_56 H, grS H hs, grS2 H hs, gr_2_12 H, gtP H hp, gtS H hs, gt_2 H, am136, isRf_ref, true_and, and_true, aPs_s, aPs_n, b01_0, b01_1, nI_clamp, ix_nI, inb_nI, lt_nI, eq_nI, nn_nI, eq0_nI, pk_mul, nI_add, lt_T, lt_F, if_true, if_false, true_and, and_true, neg1_nI, neg1_lt, neg1_neg, lt_neg1, eqN_F, eq_self,  e1, hi, r21, ec, c44', hb, Bool.not_false, Bool.not_true, Bool.true_and, Bool.false_and, Bool.and_true, Bool.and_false, Bool.or_true, Bool.or_false, Bool.true_or, Bool.false_or, Bool.true_eq_false, Bool.false_eq_true, if_true, if_false, Option.isSome_some, Option.isSome_none, Option.isNone_some, Option.isNone_none, zB_t, zB_f, nI1_0, nI0_0, show i < 40 by omega, ih])
        have l0 := loop 0 (Nat.zero_le _)
        simp (disch := first | omega | assumption | exact gtP H hp | exact gtS H hs | exact gt_2 H | (simp only [gT_pA, gT_pI, gT_pR]; first | assumption | exact gtP H hp | exact gtS H hs | exact gt_2 H) | fail) only [s136_0, s136_1, s136_4, s136_7, s136_9, s136_10, s136_11, s136_14, s136_15, s136_16, s136_17, s136_18, s136_21, s136_22, s136_25, s136_27, s136_28, s136_29, s136_32, s136_34, s136_37, s136_39, s136_40, s136_41, s136_43, s136_44, s136_47, s136_50, s136_51, s136_54, s136_55, s136_58, s136_59, s136_60, s136_63, s136_66, s136_68, s136_69, s136_72, s136_75, s136_76, aiS H hs, aq_56 H, grS H hs, grS2 H hs, gr_2_12 H, gtP H hp, gtS H hs, gt_2 H, am136, isRf_ref, true_and, and_true, aPs_s, aPs_n, b01_0, b01_1, nI_clamp, ix_nI, inb_nI, lt_nI, eq_nI, nn_nI, eq0_nI, pk_mul, nI_add, lt_T, lt_F, if_true, if_false, true_and, and_true, neg1_nI, neg1_lt, neg1_neg, lt_neg1, eqN_F, eq_self,  c129', Option.isSome_some, Bool.not_false, Bool.not_true, Bool.true_and, Bool.false_and, Bool.and_true, Bool.and_false, Bool.or_true, Bool.or_false, Bool.true_or, Bool.false_or, Bool.true_eq_false, Bool.false_eq_true, if_true, if_false, Option.isSome_some, Option.isSome_none, Option.isNone_some, Option.isNone_none, zB_t, zB_f, nI1_0, nI0_0, hs, gs, e0, e1, h1, h2, hz2]
        exact l0
  · rw [e] at c129' ⊢
    have hs : 0 < 4 := by decide
    simp (disch := first | omega | assumption | exact gtP H hp | exact gtS H hs | exact gt_2 H | (simp only [gT_pA, gT_pI, gT_pR]; first | assumption | exact gtP H hp | exact gtS H hs | exact gt_2 H) | fail) only [s136_0, s136_1, s136_4, s136_7, s136_9, s136_10, s136_11, s136_14, s136_15, s136_16, s136_17, s136_18, s136_21, s136_22, s136_25, s136_27, s136_28, s136_29, s136_32, s136_34, s136_37, s136_39, s136_40, s136_41, s136_43, s136_44, s136_47, s136_50, s136_51, s136_54, s136_55, s136_58, s136_59, s136_60, s136_63, s136_66, s136_68, s136_69, s136_72, s136_75, s136_76, aiS H hs, aq_56 H, grS H hs, grS2 H hs, gr_2_12 H, gtP H hp, gtS H hs, gt_2 H, am136, isRf_ref, true_and, and_true, aPs_s, aPs_n, b01_0, b01_1, nI_clamp, ix_nI, inb_nI, lt_nI, eq_nI, nn_nI, eq0_nI, pk_mul, nI_add, lt_T, lt_F, if_true, if_false, true_and, and_true, neg1_nI, neg1_lt, neg1_neg, lt_neg1, eqN_F, eq_self,  c129', Option.isSome_none, Bool.not_false, Bool.not_true, Bool.true_and, Bool.false_and, Bool.and_true, Bool.and_false, Bool.or_true, Bool.or_false, Bool.true_or, Bool.false_or, Bool.true_eq_false, Bool.false_eq_true, if_true, if_false, Option.isSome_some, Option.isSome_none, Option.isNone_some, Option.isNone_none, zB_t, zB_f, nI1_0, nI0_0]
theorem brI_n {P : Nat → Nat → Int32} {k : Int32} (h0 : brI P h k ≠ nI 0) : brI P h k = -5 ∧ plc k 4 = none ∨ (∃ s, plc k 4 = some s ∧ ((brI P h k = -11 ∧ gI h 94 s = -1) ∨ (brI P h k = -2 ∧ gI h 94 s ≠ -1))) := by
  unfold brI at h0 ⊢
  cases e : plc k 4 with
  | none => exact Or.inl ⟨rfl, rfl⟩
  | some s =>
    rw [e] at h0
    refine Or.inr ⟨s, rfl, ?_⟩
    dsimp only at h0 ⊢
    by_cases h1 : gI h 94 s = -1
    · rw [if_pos h1]; exact Or.inl ⟨rfl, h1⟩
    · rw [if_neg h1] at h0 ⊢
      refine Or.inr ⟨?_, h1⟩
      by_cases h2 : nI 6 < gI h 95 s
      · rw [if_pos h2]
      · rw [if_neg h2] at h0 ⊢
        cases hq : fst1 (fun i => (bf P (cRow h s i)).isNone) (ix (gI h 95 s)) 0 with
        | none => rw [hq] at h0; exact absurd rfl h0
        | some x => rfl
set_option maxHeartbeats 4000000 in
theorem t185b (HM : KM h) {P : Nat → Nat → Int32} (hP : pv h = P) (V : okP P) {tl : Option (Nat → Nat)} (T : toH h P tl) (hz : ∀ s, s < 4 → bn (gI h 95 s) 41) {s n : Nat} {bb : Nat → Nat} (hs : s < 4) (hn1 : gI h 95 s = nI n) (hn2 : n ≤ 6) (B : shH h s n bb) (hb : brI P h (nI s) = nI 0) (hQ : ∀ h2, Fm h h2 → (oRD P tl = none → Q (some (.int (-3))) h2) ∧ ∀ o, oRD P tl = some o → Q (some (.int (oI (hgT P o bb n (hgF P o bb n none (rws n)))))) (pI (pA h2 90 (hgA P o bb n (hgF P o bb n none (rws n)) (gI h 90))) 65 30 (nI n))) : aM (d + 3) 185 [.ref 65, .int (nI s)] h Q := by
  have c184' : ∀ Q', aM (d + 2) 184 [.ref 65, .int (nI s)] h Q' = Q' (some (.int (nI 0))) h := fun Q' => by rw [c184 HM hP hz, hb]
  simp (disch := first | omega | assumption | exact gt_65 HM | (simp only [gT_pA, gT_pI, gT_pR]; first | assumption | exact gt_65 HM) | fail) only [s185_0, s185_1, s185_2, s185_5, s185_6, s185_7, s185_10, s185_11, s185_13, s185_16, s185_19, s185_21, s185_23, s185_26, s185_27, s185_28, s185_29, s185_30, s185_32, s185_34, s185_35, s185_38, s185_39, s185_42, s185_44, s185_46, s185_47, s185_50, s185_53, s185_54, s185_56, s185_57, s185_59, s185_61, s185_64, s185_65, s185_66, s185_67, s185_70, s185_72, s185_74, s185_75, s185_78, s185_80, s185_82, s185_85, s185_87, s185_89, s185_90, s185_92, s185_94, s185_95, s185_98, s185_99, s185_102, s185_104, s185_105, s185_108, s185_110, s185_111, s185_112, s185_115, s185_118, s185_119, s185_120, s185_123, s185_125, s185_128, s185_129, s185_130, s185_133, s185_135, ai_102 HM, ai_95 HM, aj_101 HM, aj_90 HM, gr_65_31 HM, gr_65_43 HM, gr_65_50 HM, gr_65_51 HM, gt_65 HM, am185, isRf_ref, true_and, and_true, aPs_s, aPs_n, b01_0, b01_1, nI_clamp, ix_nI, inb_nI, lt_nI, eq_nI, nn_nI, eq0_nI, pk_mul, nI_add, lt_T, lt_F, if_true, if_false, true_and, and_true, neg1_nI, neg1_lt, neg1_neg, lt_neg1, eqN_F, eq_self,  c184', nI0_0]
  rw [s185_12]
  simp (disch := first | omega | assumption | exact gt_65 HM | (simp only [gT_pA, gT_pI, gT_pR]; first | assumption | exact gt_65 HM) | fail) only [s185_0, s185_1, s185_2, s185_5, s185_6, s185_7, s185_10, s185_11, s185_12, s185_13, s185_16, s185_19, s185_21, s185_23, s185_26, s185_27, s185_28, s185_29, s185_30, s185_32, s185_34, s185_35, s185_38, s185_39, s185_42, s185_44, s185_46, s185_47, s185_50, s185_53, s185_54, s185_56, s185_57, s185_59, s185_61, s185_64, s185_65, s185_66, s185_67, s185_70, s185_72, s185_74, s185_75, s185_78, s185_80, s185_82, s185_85, s185_87, s185_89, s185_90, s185_92, s185_94, s185_95, s185_98, s185_99, s185_102, s185_104, s185_105, s185_108, s185_110, s185_111, s185_112, s185_115, s185_118, s185_119, s185_120, s185_123, s185_125, s185_128, s185_129, s185_130, s185_133, s185_135, ai_102 HM, ai_95 HM, aj_101 HM, aj_90 HM, gr_65_31 HM, gr_65_43 HM, gr_65_50 HM, gr_65_51 HM, gt_65 HM, am185, isRf_ref, true_and, and_true, aPs_s, aPs_n, b01_0, b01_1, nI_clamp, ix_nI, inb_nI, lt_nI, eq_nI, nn_nI, eq0_nI, pk_mul, nI_add, lt_T, lt_F, if_true, if_false, true_and, and_true, neg1_nI, neg1_lt, neg1_neg, lt_neg1, eqN_F, eq_self, ]
  refine c163q HM hP V T (fun h' F => ?_)
  have HM2 := Fm_KM F HM
  cases hq : oRD P tl with
  | none =>
    refine Or.inl ⟨rfl, ?_⟩
    simp (disch := first | omega | assumption | exact gt_65 HM2 | (simp only [gT_pA, gT_pI, gT_pR]; first | assumption | exact gt_65 HM2) | fail) only [s185_0, s185_1, s185_2, s185_5, s185_6, s185_7, s185_10, s185_11, s185_12, s185_13, s185_16, s185_19, s185_21, s185_23, s185_26, s185_27, s185_28, s185_29, s185_30, s185_32, s185_34, s185_35, s185_38, s185_39, s185_42, s185_44, s185_46, s185_47, s185_50, s185_53, s185_54, s185_56, s185_57, s185_59, s185_61, s185_64, s185_65, s185_66, s185_67, s185_70, s185_72, s185_74, s185_75, s185_78, s185_80, s185_82, s185_85, s185_87, s185_89, s185_90, s185_92, s185_94, s185_95, s185_98, s185_99, s185_102, s185_104, s185_105, s185_108, s185_110, s185_111, s185_112, s185_115, s185_118, s185_119, s185_120, s185_123, s185_125, s185_128, s185_129, s185_130, s185_133, s185_135, ai_102 HM2, ai_95 HM2, aj_101 HM2, aj_90 HM2, gr_65_31 HM2, gr_65_43 HM2, gr_65_50 HM2, gr_65_51 HM2, gt_65 HM2, am185, isRf_ref, true_and, and_true, aPs_s, aPs_n, b01_0, b01_1, nI_clamp, ix_nI, inb_nI, lt_nI, eq_nI, nn_nI, eq0_nI, pk_mul, nI_add, lt_T, lt_F, if_true, if_false, true_and, and_true, neg1_nI, neg1_lt, neg1_neg, lt_neg1, eqN_F, eq_self,  Bool.not_false, Bool.not_true, Bool.true_and, Bool.false_and, Bool.and_true, Bool.and_false, Bool.or_true, Bool.or_false, Bool.true_or, Bool.false_or, Bool.true_eq_false, Bool.false_eq_true, if_true, if_false, Option.isSome_some, Option.isSome_none, Option.isNone_some, Option.isNone_none, zB_t, zB_f, nI1_0, nI0_0]
    exact (hQ h' F).1 hq
  | some o =>
    refine Or.inr ⟨o, rfl, fun O => ?_⟩
    simp (disch := first | omega | assumption | exact gt_65 HM2 | (simp only [gT_pA, gT_pI, gT_pR]; first | assumption | exact gt_65 HM2) | fail) only [s185_0, s185_1, s185_2, s185_5, s185_6, s185_7, s185_10, s185_11, s185_12, s185_13, s185_16, s185_19, s185_21, s185_23, s185_26, s185_27, s185_28, s185_29, s185_30, s185_32, s185_34, s185_35, s185_38, s185_39, s185_42, s185_44, s185_46, s185_47, s185_50, s185_53, s185_54, s185_56, s185_57, s185_59, s185_61, s185_64, s185_65, s185_66, s185_67, s185_70, s185_72, s185_74, s185_75, s185_78, s185_80, s185_82, s185_85, s185_87, s185_89, s185_90, s185_92, s185_94, s185_95, s185_98, s185_99, s185_102, s185_104, s185_105, s185_108, s185_110, s185_111, s185_112, s185_115, s185_118, s185_119, s185_120, s185_123, s185_125, s185_128, s185_129, s185_130, s185_133, s185_135, ai_102 HM2, ai_95 HM2, aj_101 HM2, aj_90 HM2, gr_65_31 HM2, gr_65_43 HM2, gr_65_50 HM2, gr_65_51 HM2, gt_65 HM2, am185, isRf_ref, true_and, and_true, aPs_s, aPs_n, b01_0, b01_1, nI_clamp, ix_nI, inb_nI, lt_nI, eq_nI, nn_nI, eq0_nI, pk_mul, nI_add, lt_T, lt_F, if_true, if_false, true_and, and_true, neg1_nI, neg1_lt, neg1_neg, lt_neg1, eqN_F, eq_self,  Bool.not_false, Bool.not_true, Bool.true_and, Bool.false_and, Bool.and_true, Bool.and_false, Bool.or_true, Bool.or_false, Bool.true_or, Bool.false_or, Bool.true_eq_false, Bool.false_eq_true, if_true, if_false, Option.isSome_some, Option.isSome_none, Option.isNone_some, Option.isNone_none, zB_t, zB_f, nI1_0, nI0_0]
    have e95 : gI h' 95 s = nI n := by rw [F.2.2.1 95 (by decide) (by decide)]; exact hn1
    have B2 : shH h' s n bb := by intro i hi; rw [F.2.2.1 96 (by decide) (by decide)]; exact B i hi
    refine c185_22 HM2 ((Fm_pv F).trans hP) V O hs hn2 e95 B2 (fun h2 F2 => ?_)
    rw [F.2.2.1 90 (by decide) (by decide)]
    exact (hQ h2 (Fm_trans F F2)).2 o hq
theorem SB_of {P : Nat → Nat → Int32} {s n : Nat} {bb : Nat → Nat} (r9 : R9 h) (hs : s < 4) (hn : n ≤ 6) (h1 : gI h 95 s = nI n) (B : shH h s n bb) : SB h s n bb := by
  obtain ⟨-, e1, -, -, e4⟩ := r9 s hs
  exact ⟨e1.trans h1, fun i hi => ⟨(e4 i (by omega)).trans (B i hi).1, (B i hi).2⟩⟩
set_option maxHeartbeats 8000000 in
theorem p_height (R : Rel h0 h) {k : Int32} : Pr d h0 h 106 185 [.ref 2, .int k] [.ref 65, .int k] := by
  have R' := R
  obtain ⟨p, P, tl, r1, r2, r3, r4, r5, r6, r7, r8, r9, ra, rb⟩ := R
  have R0 := r1
  obtain ⟨-, -, H, HM, AB0⟩ := R0
  have R0 := r2
  obtain ⟨hp, r21, r22, hP, W, Tv, T, h29, hw, TMh⟩ := R0
  have V := W.1
  have s10 := V.s.1
  have C := TMh.1.1
  have f3 := TMh.2.2.1
  have t2 := TMh.2.2.2
  have hz : ∀ s, s < 4 → bn (gI h 95 s) 41 := fun s hs => (r9 s hs).2.2.2.1
  have c136' : ∀ Q', aM (d + 19) 136 [.ref 2, .int k] h Q' = Q' (some (.int (brI P h k))) h := fun Q' => c136 H hp r21 W C r9
  have m5 : (-5 : Int32) < 0 := by decide
  have m11 : (-11 : Int32) < 0 := by decide
  have m2 : (-2 : Int32) < 0 := by decide
  by_cases hb : brI P h k = nI 0
  · obtain ⟨s, n, bb, hs, rfl, es, e94, e95, hn, B, -⟩ := brI_0 hz hb
    rw [hb] at c136'
    have gs := grS H hs
    have fixed : ∀ h1, (∀ o k, 65 ≤ o → gI h1 o k = gI h o k) → brI P h1 (nI s) = nI 0 := by
      intro h1 e
      rw [← hb]
      unfold brI cRow
      simp only [e 94 _ (by omega), e 95 _ (by omega), e 96 _ (by omega)]
    cases ho : oRD P tl with
    | none =>
      rw [ho] at f3
      refine Pr_t (h1 := h) (v := -3) (fun Q => ?_) (fun Q2 hQ2 => t185 HM hP V T hz (fun q => absurd hb q) (fun s' n' bb' _ _ _ _ _ _ _ h2 F => ⟨fun _ => hQ2 h2 (Rel_Fm F R'), fun o' ho' => by rw [ho] at ho'; cases ho'⟩))
      simp (disch := first | omega | assumption | exact gt_2 H | exact gt_29 H | exact gt_42 H | (simp only [gT_pA, gT_pI, gT_pR]; first | assumption | exact gt_2 H | exact gt_29 H | exact gt_42 H) | fail) only [s106_0, s106_1, s106_2, s106_5, s106_6, s106_7, s106_10, s106_11, s106_12, s106_13, s106_16, s106_19, s106_22, s106_24, s106_25, s106_26, s106_29, s106_30, s106_33, s106_34, s106_37, s106_38, s106_39, s106_42, aq_56 H, grS H hs, gr_2_12 H, gr_2_3 H, gr_2_5 H, gt_2 H, gt_29 H, gt_42 H, am106, isRf_ref, true_and, and_true, aPs_s, aPs_n, b01_0, b01_1, nI_clamp, ix_nI, inb_nI, lt_nI, eq_nI, nn_nI, eq0_nI, pk_mul, nI_add, lt_T, lt_F, if_true, if_false, true_and, and_true, neg1_nI, neg1_lt, neg1_neg, lt_neg1, eqN_F, eq_self,  c136', nn_nI, f3, Option.isSome_none, Bool.not_false, Bool.not_true, Bool.true_and, Bool.false_and, Bool.and_true, Bool.and_false, Bool.or_true, Bool.or_false, Bool.true_or, Bool.false_or, Bool.true_eq_false, Bool.false_eq_true, if_true, if_false, Option.isSome_some, Option.isSome_none, Option.isNone_some, Option.isNone_none, zB_t, zB_f, nI1_0, nI0_0]
    | some o =>
      obtain ⟨O, L⟩ := t2 o ho
      have f3 : gI h 29 3 = nI 1 := by rw [f3, ho]; rfl
      have SBh := SB_of (P := P) r9 hs hn e95 B
      intro Q1 hQ1
      simp (disch := first | omega | assumption | exact gt_2 H | exact gt_29 H | exact gt_42 H | (simp only [gT_pA, gT_pI, gT_pR]; first | assumption | exact gt_2 H | exact gt_29 H | exact gt_42 H) | fail) only [s106_0, s106_1, s106_2, s106_5, s106_6, s106_7, s106_10, s106_11, s106_12, s106_13, s106_16, s106_19, s106_22, s106_24, s106_25, s106_26, s106_29, s106_30, s106_33, s106_34, s106_37, s106_38, s106_39, s106_42, aq_56 H, grS H hs, gr_2_12 H, gr_2_3 H, gr_2_5 H, gt_2 H, gt_29 H, gt_42 H, am106, isRf_ref, true_and, and_true, aPs_s, aPs_n, b01_0, b01_1, nI_clamp, ix_nI, inb_nI, lt_nI, eq_nI, nn_nI, eq0_nI, pk_mul, nI_add, lt_T, lt_F, if_true, if_false, true_and, and_true, neg1_nI, neg1_lt, neg1_neg, lt_neg1, eqN_F, eq_self,  c136', nn_nI, f3, nI1_0, gs, hs]
      refine t14 (d := d + 3) V hs hn H TMh.2.1.2.1 L SBh (fun h1 b F g1 g2 g3 => ?_)
      have H1 : KC h1 := Fr_KC F (by unfold hfT; decide) H
      have F1 : Fr (fun o k => o = 43 ∨ o = 44 ∨ (o = 42 ∧ (k = 2 ∨ k = 4))) dT h h1 := Fr_mono F (fun o k q => q) (fun o k q => by unfold hfT at q; unfold dT; omega)
      simp (disch := first | omega | assumption | exact gt_2 H1 | exact gt_29 H1 | exact gt_42 H1 | (simp only [gT_pA, gT_pI, gT_pR]; first | assumption | exact gt_2 H1 | exact gt_29 H1 | exact gt_42 H1) | fail) only [s106_0, s106_1, s106_2, s106_5, s106_6, s106_7, s106_10, s106_11, s106_12, s106_13, s106_16, s106_19, s106_22, s106_24, s106_25, s106_26, s106_29, s106_30, s106_33, s106_34, s106_37, s106_38, s106_39, s106_42, aq_56 H1, grS H1 hs, gr_2_12 H1, gr_2_3 H1, gr_2_5 H1, gt_2 H1, gt_29 H1, gt_42 H1, am106, isRf_ref, true_and, and_true, aPs_s, aPs_n, b01_0, b01_1, nI_clamp, ix_nI, inb_nI, lt_nI, eq_nI, nn_nI, eq0_nI, pk_mul, nI_add, lt_T, lt_F, if_true, if_false, true_and, and_true, neg1_nI, neg1_lt, neg1_neg, lt_neg1, eqN_F, eq_self, ]
      refine hQ1 _ h1 (fun Q2 hQ2 => ?_)
      have e65 : ∀ o k, 65 ≤ o → gI h1 o k = gI h o k := fun o k q => F1.2.2 o k (by omega)
      have M1 : KM h1 := Fr_KM (Fr_pT F1) pT_M HM
      have P1 : pv h1 = P := (pv_cg (fun o k q => e65 o k (by omega)) (e65 65 4 (by omega))).trans hP
      have T1 : toH h1 P tl := toH_cg (e65 65 26 (by omega)) (fun k => e65 88 k (by omega)) T
      have b1 := fixed h1 e65
      refine t185b M1 P1 V T1 (fun s hs => by rw [e65 95 s (by omega)]; exact hz s hs) hs ((e65 95 s (by omega)).trans e95) hn (fun i hi => by rw [e65 96 _ (by omega)]; exact B i hi) b1 (fun h2 F2 => ⟨fun hn => (by rw [ho] at hn; cases hn), fun o' ho' => ?_⟩)
      rw [ho] at ho'
      cases ho'
      rw [g2]
      have F3 : Fr (fun o k => o = 43 ∨ o = 44 ∨ (o = 42 ∧ (k = 2 ∨ k = 4)) ∨ scS o k ∨ o = 90 ∨ (o = 65 ∧ k = 30)) dT h (pI (pA h2 90 (hgA P o bb n (some b) (gI h1 90))) 65 30 (nI n)) := Fr_trans (Fr_mono F1 (fun o k q => by revert q; simp only [scS]; omega) (fun _ _ q => q)) (Fr_trans (Fr_mono (Fm_Fr F2) (fun o k q => by revert q; simp only [scS]; omega) (fun _ _ q => q)) (Fr_trans (Fr_pA (fun _ => Or.inr (Or.inr (Or.inr (Or.inr (Or.inl rfl)))))) (Fr_pI (Or.inr (Or.inr (Or.inr (Or.inr (Or.inr ⟨rfl, rfl⟩))))))))
      have r4' : R4 (pI (pA h2 90 (hgA P o bb n (some b) (gI h1 90))) 65 30 (nI n)) := by
        have F2' : Fr scS dT h1 h2 := Fm_Fr F2
        refine ⟨n, hn, ?_, ?_, fun k hk => ?_⟩
        · rw [pI_def, gI_ne (by decide), gI_ne (by decide), F2'.2.2 42 4 (by unfold scS; omega)]
          exact g1
        · rw [pI_def, gI_eq, upd_eq]
        · rw [pI_def, gI_ne (by decide), gI_ne (by decide), gI_ne (by decide), gI_eq, F2'.2.2 44 k (by unfold scS; omega), g3 k hk]
          exact (pre_in (g := fun k => nI (lyL P o bb (gf b) n k)) hk).symm
      refine hQ2 _ ?_
      exact ⟨p, P, tl, R1_fr (Fr_pT F3) (by intro o k; simp only [D1, scS]; omega) r1, R2_fr F3 (by intro o k; simp only [D2, scS]; omega) r2, R3_fr F3 (by intro o k; simp only [D3, scS]; omega) r3, r4', R5_fr F3 (by intro o k; simp only [D5, scS]; omega) r5, R6_fr F3 (by intro o k; simp only [D6, scS]; omega) r6, R7_fr F3 (by intro o k; simp only [D7, scS]; omega) r7, R8_fr F3 (by intro o k; simp only [D8, scS]; omega) r8, R9_fr F3 (by intro o k; simp only [D9, scS]; omega) r9, RA_fr F3 (by intro o k; simp only [DA, scS]; omega) ra, RB_fr F3 (by intro o k; simp only [DB, scS]; omega) rb⟩
  · rcases brI_n hb with ⟨e, e1⟩ | ⟨s, e1, ⟨e, e2⟩ | ⟨e, e2⟩⟩
    · rw [e] at c136'
      refine Pr_t (h1 := h) (v := -5) (fun Q => ?_) (fun Q2 hQ2 => t185 HM hP V T hz (fun _ => by rw [e]; exact hQ2 h R') (fun s' n' bb' _ _ _ _ _ _ q => absurd q hb))
      have hs : 0 < 4 := by decide
      simp (disch := first | omega | assumption | exact gt_2 H | exact gt_29 H | exact gt_42 H | (simp only [gT_pA, gT_pI, gT_pR]; first | assumption | exact gt_2 H | exact gt_29 H | exact gt_42 H) | fail) only [s106_0, s106_1, s106_2, s106_5, s106_6, s106_7, s106_10, s106_11, s106_12, s106_13, s106_16, s106_19, s106_22, s106_24, s106_25, s106_26, s106_29, s106_30, s106_33, s106_34, s106_37, s106_38, s106_39, s106_42, aq_56 H, grS H hs, gr_2_12 H, gr_2_3 H, gr_2_5 H, gt_2 H, gt_29 H, gt_42 H, am106, isRf_ref, true_and, and_true, aPs_s, aPs_n, b01_0, b01_1, nI_clamp, ix_nI, inb_nI, lt_nI, eq_nI, nn_nI, eq0_nI, pk_mul, nI_add, lt_T, lt_F, if_true, if_false, true_and, and_true, neg1_nI, neg1_lt, neg1_neg, lt_neg1, eqN_F, eq_self,  c136', m5]
    · rw [e] at c136'
      refine Pr_t (h1 := h) (v := -11) (fun Q => ?_) (fun Q2 hQ2 => t185 HM hP V T hz (fun _ => by rw [e]; exact hQ2 h R') (fun s' n' bb' _ _ _ _ _ _ q => absurd q hb))
      have hs : 0 < 4 := by decide
      simp (disch := first | omega | assumption | exact gt_2 H | exact gt_29 H | exact gt_42 H | (simp only [gT_pA, gT_pI, gT_pR]; first | assumption | exact gt_2 H | exact gt_29 H | exact gt_42 H) | fail) only [s106_0, s106_1, s106_2, s106_5, s106_6, s106_7, s106_10, s106_11, s106_12, s106_13, s106_16, s106_19, s106_22, s106_24, s106_25, s106_26, s106_29, s106_30, s106_33, s106_34, s106_37, s106_38, s106_39, s106_42, aq_56 H, grS H hs, gr_2_12 H, gr_2_3 H, gr_2_5 H, gt_2 H, gt_29 H, gt_42 H, am106, isRf_ref, true_and, and_true, aPs_s, aPs_n, b01_0, b01_1, nI_clamp, ix_nI, inb_nI, lt_nI, eq_nI, nn_nI, eq0_nI, pk_mul, nI_add, lt_T, lt_F, if_true, if_false, true_and, and_true, neg1_nI, neg1_lt, neg1_neg, lt_neg1, eqN_F, eq_self,  c136', m11]
    · rw [e] at c136'
      refine Pr_t (h1 := h) (v := -2) (fun Q => ?_) (fun Q2 hQ2 => t185 HM hP V T hz (fun _ => by rw [e]; exact hQ2 h R') (fun s' n' bb' _ _ _ _ _ _ q => absurd q hb))
      have hs : 0 < 4 := by decide
      simp (disch := first | omega | assumption | exact gt_2 H | exact gt_29 H | exact gt_42 H | (simp only [gT_pA, gT_pI, gT_pR]; first | assumption | exact gt_2 H | exact gt_29 H | exact gt_42 H) | fail) only [s106_0, s106_1, s106_2, s106_5, s106_6, s106_7, s106_10, s106_11, s106_12, s106_13, s106_16, s106_19, s106_22, s106_24, s106_25, s106_26, s106_29, s106_30, s106_33, s106_34, s106_37, s106_38, s106_39, s106_42, aq_56 H, grS H hs, gr_2_12 H, gr_2_3 H, gr_2_5 H, gt_2 H, gt_29 H, gt_42 H, am106, isRf_ref, true_and, and_true, aPs_s, aPs_n, b01_0, b01_1, nI_clamp, ix_nI, inb_nI, lt_nI, eq_nI, nn_nI, eq0_nI, pk_mul, nI_add, lt_T, lt_F, if_true, if_false, true_and, and_true, neg1_nI, neg1_lt, neg1_neg, lt_neg1, eqN_F, eq_self,  c136', m2]
set_option maxHeartbeats 4000000 in
theorem t193b (HM : KM h) {P : Nat → Nat → Int32} (hP : pv h = P) (V : okP P) {tl : Option (Nat → Nat)} (T : toH h P tl) (hz : ∀ s, s < 4 → bn (gI h 95 s) 41) {s n rm rt : Nat} {bb : Nat → Nat} (hs : s < 4) (h1 : gI h 94 s ≠ -1) (hn1 : gI h 95 s = nI n) (hn2 : n ≤ 6) (B : shH h s n bb) (hb : brI P h (nI s) = nI 0) (hrm : rm < 100000) (r1 : 0 < rt) (r2 : rt < 100) (hQ : ∀ h2, Fm h h2 → (oRD P tl = none → Q (some (.int (-3))) h2) ∧ ∀ o, oRD P tl = some o → Q (some (.int (so6 (soN P o bb n rm rt (2 ^ n))))) (hO h2 (soN P o bb n rm rt (2 ^ n)))) : aM (d + 4) 193 [.ref 65, .int (nI s), .int (nI rm), .int (nI rt)] h Q := by
  have c184' : ∀ Q', aM (d + 3) 184 [.ref 65, .int (nI s)] h Q' = Q' (some (.int (nI 0))) h := fun Q' => by rw [c184 HM hP hz, hb]
  have i4 : ∀ Q', aM (d + 3) 139 [.int (nI s), .int (nI 0), .int (nI 3)] h Q' = Q' (some (.int (nI 1))) h := fun Q' => by rw [c139p (n := 4) (by decide) rfl, plc_nI hs (by decide)]; rfl
  have ir : ∀ Q', aM (d + 3) 139 [.int (nI rm), .int (nI 0), .int 99999] h Q' = Q' (some (.int (nI 1))) h := fun Q' => by
    have := c139p (d := d + 3) (h := h) (Q := Q') (k := nI rm) (n := 100000) (m := 99999) (by decide) rfl
    rw [plc_nI hrm (by decide)] at this
    exact this
  have r3 : rtB (nI rt) = true := decide_eq_true ⟨by rw [lt_nI (by omega) (by omega)]; omega, by rw [lt_nI (by omega) (by omega)]; omega⟩
  have it : ∀ Q', aM (d + 3) 139 [.int (nI rt), .int (nI 1), .int (nI 99)] h Q' = Q' (some (.int (zB (rtB (nI rt))))) h := fun Q' => c139
  rw [r3] at it
  simp (disch := first | omega | assumption | exact gt_65 HM | (simp only [gT_pA, gT_pI, gT_pR]; first | assumption | exact gt_65 HM) | fail) only [s193_0, s193_1, s193_2, s193_3, s193_6, s193_9, s193_11, s193_12, s193_13, s193_16, s193_17, s193_18, s193_19, s193_22, s193_24, s193_25, s193_26, s193_27, s193_30, s193_33, s193_34, s193_35, s193_38, s193_41, s193_44, s193_45, s193_46, s193_48, s193_51, s193_54, s193_56, s193_58, s193_61, s193_64, s193_66, s193_67, s193_68, s193_70, s193_71, s193_75, s193_76, s193_77, s193_80, s193_81, s193_82, s193_83, s193_86, s193_87, s193_89, s193_90, s193_92, s193_94, s193_95, s193_98, s193_99, s193_100, s193_103, s193_105, s193_107, s193_109, s193_110, s193_111, s193_112, s193_113, s193_116, s193_117, s193_118, s193_121, s193_123, s193_124, s193_125, s193_127, s193_128, s193_129, s193_130, s193_133, s193_134, s193_135, s193_137, s193_140, s193_143, s193_144, s193_146, s193_147, s193_149, s193_151, s193_153, s193_156, s193_158, s193_160, s193_162, s193_163, s193_164, s193_165, s193_166, s193_169, s193_170, s193_172, s193_173, s193_176, s193_179, s193_180, s193_181, s193_183, s193_186, s193_189, s193_191, s193_192, s193_195, s193_197, s193_199, s193_202, s193_203, s193_205, s193_206, s193_209, s193_212, s193_214, s193_216, s193_217, s193_219, s193_222, s193_225, s193_228, s193_230, s193_231, s193_234, s193_236, s193_239, s193_241, ai_94 HM, ai_95 HM, ai_96 HM, gr_65_42 HM, gr_65_43 HM, gr_65_44 HM, gt_65 HM, am193, isRf_ref, true_and, and_true, aPs_s, aPs_n, b01_0, b01_1, nI_clamp, ix_nI, inb_nI, lt_nI, eq_nI, nn_nI, eq0_nI, pk_mul, nI_add, lt_T, lt_F, if_true, if_false, true_and, and_true, neg1_nI, neg1_lt, neg1_neg, lt_neg1, eqN_F, eq_self,  i4, Bool.not_false, Bool.not_true, Bool.true_and, Bool.false_and, Bool.and_true, Bool.and_false, Bool.or_true, Bool.or_false, Bool.true_or, Bool.false_or, Bool.true_eq_false, Bool.false_eq_true, if_true, if_false, Option.isSome_some, Option.isSome_none, Option.isNone_some, Option.isNone_none, zB_t, zB_f, nI1_0, nI0_0, hs, h1, c184', nI0_0, ir, it]
  rw [s193_57]
  simp (disch := first | omega | assumption | exact gt_65 HM | (simp only [gT_pA, gT_pI, gT_pR]; first | assumption | exact gt_65 HM) | fail) only [s193_0, s193_1, s193_2, s193_3, s193_6, s193_9, s193_11, s193_12, s193_13, s193_16, s193_17, s193_18, s193_19, s193_22, s193_24, s193_25, s193_26, s193_27, s193_30, s193_33, s193_34, s193_35, s193_38, s193_41, s193_44, s193_45, s193_46, s193_48, s193_51, s193_54, s193_56, s193_57, s193_58, s193_61, s193_64, s193_66, s193_67, s193_68, s193_70, s193_71, s193_75, s193_76, s193_77, s193_80, s193_81, s193_82, s193_83, s193_86, s193_87, s193_89, s193_90, s193_92, s193_94, s193_95, s193_98, s193_99, s193_100, s193_103, s193_105, s193_107, s193_109, s193_110, s193_111, s193_112, s193_113, s193_116, s193_117, s193_118, s193_121, s193_123, s193_124, s193_125, s193_127, s193_128, s193_129, s193_130, s193_133, s193_134, s193_135, s193_137, s193_140, s193_143, s193_144, s193_146, s193_147, s193_149, s193_151, s193_153, s193_156, s193_158, s193_160, s193_162, s193_163, s193_164, s193_165, s193_166, s193_169, s193_170, s193_172, s193_173, s193_176, s193_179, s193_180, s193_181, s193_183, s193_186, s193_189, s193_191, s193_192, s193_195, s193_197, s193_199, s193_202, s193_203, s193_205, s193_206, s193_209, s193_212, s193_214, s193_216, s193_217, s193_219, s193_222, s193_225, s193_228, s193_230, s193_231, s193_234, s193_236, s193_239, s193_241, ai_94 HM, ai_95 HM, ai_96 HM, gr_65_42 HM, gr_65_43 HM, gr_65_44 HM, gt_65 HM, am193, isRf_ref, true_and, and_true, aPs_s, aPs_n, b01_0, b01_1, nI_clamp, ix_nI, inb_nI, lt_nI, eq_nI, nn_nI, eq0_nI, pk_mul, nI_add, lt_T, lt_F, if_true, if_false, true_and, and_true, neg1_nI, neg1_lt, neg1_neg, lt_neg1, eqN_F, eq_self, ]
  refine c163q HM hP V T (fun h' F => ?_)
  have HM2 := Fm_KM F HM
  cases hq : oRD P tl with
  | none =>
    refine Or.inl ⟨rfl, ?_⟩
    simp (disch := first | omega | assumption | exact gt_65 HM2 | (simp only [gT_pA, gT_pI, gT_pR]; first | assumption | exact gt_65 HM2) | fail) only [s193_0, s193_1, s193_2, s193_3, s193_6, s193_9, s193_11, s193_12, s193_13, s193_16, s193_17, s193_18, s193_19, s193_22, s193_24, s193_25, s193_26, s193_27, s193_30, s193_33, s193_34, s193_35, s193_38, s193_41, s193_44, s193_45, s193_46, s193_48, s193_51, s193_54, s193_56, s193_57, s193_58, s193_61, s193_64, s193_66, s193_67, s193_68, s193_70, s193_71, s193_75, s193_76, s193_77, s193_80, s193_81, s193_82, s193_83, s193_86, s193_87, s193_89, s193_90, s193_92, s193_94, s193_95, s193_98, s193_99, s193_100, s193_103, s193_105, s193_107, s193_109, s193_110, s193_111, s193_112, s193_113, s193_116, s193_117, s193_118, s193_121, s193_123, s193_124, s193_125, s193_127, s193_128, s193_129, s193_130, s193_133, s193_134, s193_135, s193_137, s193_140, s193_143, s193_144, s193_146, s193_147, s193_149, s193_151, s193_153, s193_156, s193_158, s193_160, s193_162, s193_163, s193_164, s193_165, s193_166, s193_169, s193_170, s193_172, s193_173, s193_176, s193_179, s193_180, s193_181, s193_183, s193_186, s193_189, s193_191, s193_192, s193_195, s193_197, s193_199, s193_202, s193_203, s193_205, s193_206, s193_209, s193_212, s193_214, s193_216, s193_217, s193_219, s193_222, s193_225, s193_228, s193_230, s193_231, s193_234, s193_236, s193_239, s193_241, ai_94 HM2, ai_95 HM2, ai_96 HM2, gr_65_42 HM2, gr_65_43 HM2, gr_65_44 HM2, gt_65 HM2, am193, isRf_ref, true_and, and_true, aPs_s, aPs_n, b01_0, b01_1, nI_clamp, ix_nI, inb_nI, lt_nI, eq_nI, nn_nI, eq0_nI, pk_mul, nI_add, lt_T, lt_F, if_true, if_false, true_and, and_true, neg1_nI, neg1_lt, neg1_neg, lt_neg1, eqN_F, eq_self,  Bool.not_false, Bool.not_true, Bool.true_and, Bool.false_and, Bool.and_true, Bool.and_false, Bool.or_true, Bool.or_false, Bool.true_or, Bool.false_or, Bool.true_eq_false, Bool.false_eq_true, if_true, if_false, Option.isSome_some, Option.isSome_none, Option.isNone_some, Option.isNone_none, zB_t, zB_f, nI1_0, nI0_0]
    exact (hQ h' F).1 hq
  | some o =>
    refine Or.inr ⟨o, rfl, fun O => ?_⟩
    simp (disch := first | omega | assumption | exact gt_65 HM2 | (simp only [gT_pA, gT_pI, gT_pR]; first | assumption | exact gt_65 HM2) | fail) only [s193_0, s193_1, s193_2, s193_3, s193_6, s193_9, s193_11, s193_12, s193_13, s193_16, s193_17, s193_18, s193_19, s193_22, s193_24, s193_25, s193_26, s193_27, s193_30, s193_33, s193_34, s193_35, s193_38, s193_41, s193_44, s193_45, s193_46, s193_48, s193_51, s193_54, s193_56, s193_57, s193_58, s193_61, s193_64, s193_66, s193_67, s193_68, s193_70, s193_71, s193_75, s193_76, s193_77, s193_80, s193_81, s193_82, s193_83, s193_86, s193_87, s193_89, s193_90, s193_92, s193_94, s193_95, s193_98, s193_99, s193_100, s193_103, s193_105, s193_107, s193_109, s193_110, s193_111, s193_112, s193_113, s193_116, s193_117, s193_118, s193_121, s193_123, s193_124, s193_125, s193_127, s193_128, s193_129, s193_130, s193_133, s193_134, s193_135, s193_137, s193_140, s193_143, s193_144, s193_146, s193_147, s193_149, s193_151, s193_153, s193_156, s193_158, s193_160, s193_162, s193_163, s193_164, s193_165, s193_166, s193_169, s193_170, s193_172, s193_173, s193_176, s193_179, s193_180, s193_181, s193_183, s193_186, s193_189, s193_191, s193_192, s193_195, s193_197, s193_199, s193_202, s193_203, s193_205, s193_206, s193_209, s193_212, s193_214, s193_216, s193_217, s193_219, s193_222, s193_225, s193_228, s193_230, s193_231, s193_234, s193_236, s193_239, s193_241, ai_94 HM2, ai_95 HM2, ai_96 HM2, gr_65_42 HM2, gr_65_43 HM2, gr_65_44 HM2, gt_65 HM2, am193, isRf_ref, true_and, and_true, aPs_s, aPs_n, b01_0, b01_1, nI_clamp, ix_nI, inb_nI, lt_nI, eq_nI, nn_nI, eq0_nI, pk_mul, nI_add, lt_T, lt_F, if_true, if_false, true_and, and_true, neg1_nI, neg1_lt, neg1_neg, lt_neg1, eqN_F, eq_self,  Bool.not_false, Bool.not_true, Bool.true_and, Bool.false_and, Bool.and_true, Bool.and_false, Bool.or_true, Bool.or_false, Bool.true_or, Bool.false_or, Bool.true_eq_false, Bool.false_eq_true, if_true, if_false, Option.isSome_some, Option.isSome_none, Option.isNone_some, Option.isNone_none, zB_t, zB_f, nI1_0, nI0_0]
    have e95 : gI h' 95 s = nI n := by rw [F.2.2.1 95 (by decide) (by decide)]; exact hn1
    have B2 : shH h' s n bb := by intro i hi; rw [F.2.2.1 96 (by decide) (by decide)]; exact B i hi
    rw [c193_73 HM2 ((Fm_pv F).trans hP) V O hs hn2 e95 B2 hrm r1 r2]
    exact (hQ h' F).2 o hq
theorem r_cs (k : Int32) : (∃ rt, 0 < rt ∧ rt < 100 ∧ k = nI rt) ∨ (rtB k = false ∧ ((k < nI 1) = True ∨ ((k < nI 1) = False ∧ (nI 99 < k) = True))) := by
  unfold rtB
  by_cases h1 : k < nI 1
  · exact Or.inr ⟨decide_eq_false (fun q => q.1 h1), Or.inl (eq_true h1)⟩
  · by_cases h2 : nI 99 < k
    · exact Or.inr ⟨decide_eq_false (fun q => q.2 h2), Or.inr ⟨eq_false h1, eq_true h2⟩⟩
    · have e1 : (nI 1).toInt = 1 := by decide
      have e2 : (nI 99).toInt = 99 := by decide
      have h0 : ¬ k < 0 := by
        have e0 : (0 : Int32).toInt = 0 := by decide
        rw [Int32.lt_iff_toInt_lt, e0]
        rw [Int32.lt_iff_toInt_lt, e1] at h1
        omega
      obtain ⟨e3, e4⟩ := nI_nonneg h0
      rw [Int32.lt_iff_toInt_lt] at h1 h2
      rw [e1] at h1
      rw [e2] at h2
      exact Or.inl ⟨k.toInt.toNat, by omega, by omega, e3⟩
set_option maxHeartbeats 8000000 in
theorem p_send (R : Rel h0 h) {k room rate : Int32} : Pr d h0 h 110 193 [.ref 2, .int k, .int room, .int rate] [.ref 65, .int k, .int room, .int rate] := by
  have R' := R
  obtain ⟨p, P, tl, r1, r2, r3, r4, r5, r6, r7, r8, r9, ra, rb⟩ := R
  have R0 := r1
  obtain ⟨-, -, H, HM, AB0⟩ := R0
  have R0 := r2
  obtain ⟨hp, r21, r22, hP, W, Tv, T, h29, hw, TMh⟩ := R0
  have V := W.1
  have s10 := V.s.1
  have C := TMh.1.1
  have f3 := TMh.2.2.1
  have t2 := TMh.2.2.2
  have hz : ∀ s, s < 4 → bn (gI h 95 s) 41 := fun s hs => (r9 s hs).2.2.2.1
  have c136' : ∀ Q', aM (d + 19) 136 [.ref 2, .int k] h Q' = Q' (some (.int (brI P h k))) h := fun Q' => c136 H hp r21 W C r9
  have q5 : (-5 : Int32) = -5 := rfl
  have q11 : ¬ (-11 : Int32) = -5 := by decide
  have q2 : ¬ (-2 : Int32) = -5 := by decide
  have q22 : ¬ (-2 : Int32) = -11 := by decide
  have m2 : (-2 : Int32) < 0 := by decide
  have q0 : ¬ nI 0 = -5 := by decide
  have q00 : ¬ nI 0 = -11 := by decide
  -- the refusals
  have no2 : ∀ s, plc k 4 = some s → gI h 94 s ≠ -1 → (brI P h k ≠ nI 0 ∨ plc room 100000 = none ∨ rtB rate = false) → ∀ Q2 : Option Value → abH → Prop, (∀ h2, Rel h0 h2 → Q2 (some (.int (-2))) h2) → aM (d + 20) 193 [.ref 65, .int k, .int room, .int rate] h Q2 := by
    intro s e1 e2 e3 Q2 hQ2
    refine t193 HM hP V T hz (fun e => ?_) (fun s' e => ?_) (fun s' e _ _ => hQ2 h R') (fun s' n' bb' rm' rt' _ _ e _ _ _ _ e4 _ _ e5 _ _ _ e6 => ?_)
    · rw [e1] at e; cases e
    · rw [e1] at e; cases e; exact fun q => absurd q e2
    · rcases e3 with e3 | e3 | e3
      · exact absurd e4 e3
      · rw [e3] at e5; cases e5
      · rw [e3] at e6; cases e6
  by_cases hb : brI P h k = nI 0
  · obtain ⟨s, n, bb, hs, rfl, es, e94, e95, hn, B, -⟩ := brI_0 hz hb
    rw [hb] at c136'
    have gs := grS H hs
    rcases plc_cases room 100000 (by omega) with ⟨rm, hrm, rfl, er⟩ | ⟨er, e1, e2⟩ | ⟨er, e1, e2, e3, e4⟩
    · have lr : nI rm < (100000 : Int32) := (lt_nI (a := rm) (b := 100000) (by omega) (by omega)).symm ▸ hrm
      rcases r_cs rate with ⟨rt, r1t, r2t, rfl⟩ | ⟨er2, e1 | ⟨e1, e2⟩⟩
      · have l1 : ¬ nI rt < nI 1 := by rw [lt_nI (by omega) (by omega)]; omega
        have l2 : ¬ nI 99 < nI rt := by rw [lt_nI (by omega) (by omega)]; omega
        cases ho : oRD P tl with
        | none =>
          rw [ho] at f3
          refine Pr_t (h1 := h) (v := -3) (fun Q => ?_) (fun Q2 hQ2 => t193b HM hP V T hz hs e94 e95 hn B hb hrm r1t r2t (fun h2 F => ⟨fun _ => hQ2 h2 (Rel_Fm F R'), fun o' ho' => by rw [ho] at ho'; cases ho'⟩))
          simp (disch := first | omega | assumption | exact gt_2 H | exact gt_29 H | exact gt_46 H | (simp only [gT_pA, gT_pI, gT_pR]; first | assumption | exact gt_2 H | exact gt_29 H | exact gt_46 H) | fail) only [s110_0, s110_1, s110_2, s110_5, s110_7, s110_9, s110_11, s110_14, s110_16, s110_18, s110_21, s110_23, s110_24, s110_26, s110_29, s110_30, s110_33, s110_34, s110_36, s110_39, s110_40, s110_41, s110_44, s110_45, s110_47, s110_50, s110_52, s110_53, s110_54, s110_57, s110_60, s110_63, s110_65, s110_66, s110_67, s110_70, s110_71, s110_74, s110_75, s110_78, s110_79, s110_80, s110_81, s110_82, s110_85, s110_87, s110_89, s110_92, s110_94, s110_97, s110_99, aq_56 H, grS H hs, gr_2_12 H, gr_2_3 H, gr_2_7 H, gt_2 H, gt_29 H, gt_46 H, am110, isRf_ref, true_and, and_true, aPs_s, aPs_n, b01_0, b01_1, nI_clamp, ix_nI, inb_nI, lt_nI, eq_nI, nn_nI, eq0_nI, pk_mul, nI_add, lt_T, lt_F, if_true, if_false, true_and, and_true, neg1_nI, neg1_lt, neg1_neg, lt_neg1, eqN_F, eq_self,  c136', q0, q00, nn_nI, lr, l1, l2, f3, Option.isSome_none, Bool.not_false, Bool.not_true, Bool.true_and, Bool.false_and, Bool.and_true, Bool.and_false, Bool.or_true, Bool.or_false, Bool.true_or, Bool.false_or, Bool.true_eq_false, Bool.false_eq_true, if_true, if_false, Option.isSome_some, Option.isSome_none, Option.isNone_some, Option.isNone_none, zB_t, zB_f, nI1_0, nI0_0]
        | some o =>
          obtain ⟨O, L⟩ := t2 o ho
          have f3 : gI h 29 3 = nI 1 := by rw [f3, ho]; rfl
          have SBh := SB_of (P := P) r9 hs hn e95 B
          have c72' : ∀ Q', aM (d + 19) 72 [.ref 46, .ref 29, .ref (57 + 2 * s), .int (nI rm), .int (nI rt)] h Q' = Q' (some (.int (soI (soN P o bb n rm rt (2 ^ n))))) (seX h s (soN P o bb n rm rt (2 ^ n))) := fun Q' => c72 H hp V TMh.1 TMh.2.1.2.1 O L hs hn SBh hrm r1t r2t
          have hle : ∀ y, soN P o bb n rm rt (2 ^ n) = some y → y.1 ≤ 9420840 := fun y e => (soN_le V (fun i hi => (B i hi).2) r1t r2t e).1
          generalize hX : soN P o bb n rm rt (2 ^ n) = X at *
          have F1 : Fr (fun o k => o = 46 ∧ k = 0) dT h (seX h s X) := Fr_trans (Fr_trans (Fr_pR (Or.inr (Or.inr (Or.inl ⟨rfl, Or.inl rfl⟩)))) (Fr_pR (Or.inr (Or.inr (Or.inl ⟨rfl, Or.inr rfl⟩))))) (Fr_pI ⟨rfl, rfl⟩)
          have e65 : ∀ o k, 65 ≤ o → gI (seX h s X) o k = gI h o k := fun o k q => F1.2.2 o k (by omega)
          have M1 : KM (seX h s X) := Fr_KM (Fr_pT F1) pT_M HM
          have P1 : pv (seX h s X) = P := (pv_cg (fun o k q => e65 o k (by omega)) (e65 65 4 (by omega))).trans hP
          have T1 : toH (seX h s X) P tl := toH_cg (e65 65 26 (by omega)) (fun k => e65 88 k (by omega)) T
          have b1 : brI P (seX h s X) (nI s) = nI 0 := by
            rw [← hb]
            unfold brI cRow
            simp only [e65 94 _ (by omega), e65 95 _ (by omega), e65 96 _ (by omega)]
          refine Pr_t (h1 := seX h s X) (v := so6 X) (fun Q => ?_) (fun Q2 hQ2 => t193b M1 P1 V T1 (fun s hs => by rw [e65 95 s (by omega)]; exact hz s hs) hs (by rw [e65 94 s (by omega)]; exact e94) ((e65 95 s (by omega)).trans e95) hn (fun i hi => by rw [e65 96 _ (by omega)]; exact B i hi) b1 hrm r1t r2t (fun h2 F2 => ⟨fun hn => (by rw [ho] at hn; cases hn), fun o' ho' => ?_⟩))
          · cases X with
            | none => simp (disch := first | omega | assumption | exact gt_2 H | exact gt_29 H | exact gt_46 H | (simp only [gT_pA, gT_pI, gT_pR]; first | assumption | exact gt_2 H | exact gt_29 H | exact gt_46 H) | fail) only [s110_0, s110_1, s110_2, s110_5, s110_7, s110_9, s110_11, s110_14, s110_16, s110_18, s110_21, s110_23, s110_24, s110_26, s110_29, s110_30, s110_33, s110_34, s110_36, s110_39, s110_40, s110_41, s110_44, s110_45, s110_47, s110_50, s110_52, s110_53, s110_54, s110_57, s110_60, s110_63, s110_65, s110_66, s110_67, s110_70, s110_71, s110_74, s110_75, s110_78, s110_79, s110_80, s110_81, s110_82, s110_85, s110_87, s110_89, s110_92, s110_94, s110_97, s110_99, aq_56 H, grS H hs, gr_2_12 H, gr_2_3 H, gr_2_7 H, gt_2 H, gt_29 H, gt_46 H, am110, isRf_ref, true_and, and_true, aPs_s, aPs_n, b01_0, b01_1, nI_clamp, ix_nI, inb_nI, lt_nI, eq_nI, nn_nI, eq0_nI, pk_mul, nI_add, lt_T, lt_F, if_true, if_false, true_and, and_true, neg1_nI, neg1_lt, neg1_neg, lt_neg1, eqN_F, eq_self,  c136', q0, q00, nn_nI, lr, l1, l2, f3, nI1_0, gs, hs, c72', soI, Option.map_none, oI_n, iflt_m1, so6]
            | some y =>
              have := hle y rfl
              simp (disch := first | omega | assumption | exact gt_2 H | exact gt_29 H | exact gt_46 H | (simp only [gT_pA, gT_pI, gT_pR]; first | assumption | exact gt_2 H | exact gt_29 H | exact gt_46 H) | fail) only [s110_0, s110_1, s110_2, s110_5, s110_7, s110_9, s110_11, s110_14, s110_16, s110_18, s110_21, s110_23, s110_24, s110_26, s110_29, s110_30, s110_33, s110_34, s110_36, s110_39, s110_40, s110_41, s110_44, s110_45, s110_47, s110_50, s110_52, s110_53, s110_54, s110_57, s110_60, s110_63, s110_65, s110_66, s110_67, s110_70, s110_71, s110_74, s110_75, s110_78, s110_79, s110_80, s110_81, s110_82, s110_85, s110_87, s110_89, s110_92, s110_94, s110_97, s110_99, aq_56 H, grS H hs, gr_2_12 H, gr_2_3 H, gr_2_7 H, gt_2 H, gt_29 H, gt_46 H, am110, isRf_ref, true_and, and_true, aPs_s, aPs_n, b01_0, b01_1, nI_clamp, ix_nI, inb_nI, lt_nI, eq_nI, nn_nI, eq0_nI, pk_mul, nI_add, lt_T, lt_F, if_true, if_false, true_and, and_true, neg1_nI, neg1_lt, neg1_neg, lt_neg1, eqN_F, eq_self,  c136', q0, q00, nn_nI, lr, l1, l2, f3, nI1_0, gs, hs, c72', soI, Option.map_some, oI_s, so6]
          · rw [ho] at ho'
            cases ho'
            rw [hX]
            have F2' : Fr scS dT (seX h s X) h2 := Fm_Fr F2
            have F3 : Fr (fun o k => (o = 46 ∧ k = 0) ∨ scS o k ∨ (o = 65 ∧ k = 29)) dT h (hO h2 X) := Fr_trans (Fr_mono F1 (fun o k q => Or.inl q) (fun _ _ q => q)) (Fr_trans (Fr_mono F2' (fun o k q => Or.inr (Or.inl q)) (fun _ _ q => q)) (Fr_pI (Or.inr (Or.inr ⟨rfl, rfl⟩))))
            have r6' : R6 (hO h2 X) := by
              unfold R6 hO
              rw [pI_def, gI_ne (by decide), gI_eq, upd_eq, F2'.2.2 46 0 (by unfold scS; omega)]
              unfold seX
              rw [pI_def, gI_eq, upd_eq]
              cases X with
              | none =>
                simp only
                rw [F2'.2.2 65 29 (by unfold scS; omega), F1.2.2 65 29 (by omega)]
                exact r6
              | some y => rfl
            refine hQ2 _ ?_
            exact ⟨p, P, tl, R1_fr (Fr_pT F3) (by intro o k; simp only [D1, scS]; omega) r1, R2_fr F3 (by intro o k; simp only [D2, scS]; omega) r2, R3_fr F3 (by intro o k; simp only [D3, scS]; omega) r3, R4_fr F3 (by intro o k; simp only [D4, scS]; omega) r4, R5_fr F3 (by intro o k; simp only [D5, scS]; omega) r5, r6', R7_fr F3 (by intro o k; simp only [D7, scS]; omega) r7, R8_fr F3 (by intro o k; simp only [D8, scS]; omega) r8, R9_fr F3 (by intro o k; simp only [D9, scS]; omega) r9, RA_fr F3 (by intro o k; simp only [DA, scS]; omega) ra, RB_fr F3 (by intro o k; simp only [DB, scS]; omega) rb⟩
      · refine Pr_t (h1 := h) (v := -2) (fun Q => ?_) (no2 s es e94 (Or.inr (Or.inr er2)))
        simp (disch := first | omega | assumption | exact gt_2 H | exact gt_29 H | exact gt_46 H | (simp only [gT_pA, gT_pI, gT_pR]; first | assumption | exact gt_2 H | exact gt_29 H | exact gt_46 H) | fail) only [s110_0, s110_1, s110_2, s110_5, s110_7, s110_9, s110_11, s110_14, s110_16, s110_18, s110_21, s110_23, s110_24, s110_26, s110_29, s110_30, s110_33, s110_34, s110_36, s110_39, s110_40, s110_41, s110_44, s110_45, s110_47, s110_50, s110_52, s110_53, s110_54, s110_57, s110_60, s110_63, s110_65, s110_66, s110_67, s110_70, s110_71, s110_74, s110_75, s110_78, s110_79, s110_80, s110_81, s110_82, s110_85, s110_87, s110_89, s110_92, s110_94, s110_97, s110_99, aq_56 H, grS H hs, gr_2_12 H, gr_2_3 H, gr_2_7 H, gt_2 H, gt_29 H, gt_46 H, am110, isRf_ref, true_and, and_true, aPs_s, aPs_n, b01_0, b01_1, nI_clamp, ix_nI, inb_nI, lt_nI, eq_nI, nn_nI, eq0_nI, pk_mul, nI_add, lt_T, lt_F, if_true, if_false, true_and, and_true, neg1_nI, neg1_lt, neg1_neg, lt_neg1, eqN_F, eq_self,  c136', q0, q00, nn_nI, lr, e1]
      · refine Pr_t (h1 := h) (v := -2) (fun Q => ?_) (no2 s es e94 (Or.inr (Or.inr er2)))
        simp (disch := first | omega | assumption | exact gt_2 H | exact gt_29 H | exact gt_46 H | (simp only [gT_pA, gT_pI, gT_pR]; first | assumption | exact gt_2 H | exact gt_29 H | exact gt_46 H) | fail) only [s110_0, s110_1, s110_2, s110_5, s110_7, s110_9, s110_11, s110_14, s110_16, s110_18, s110_21, s110_23, s110_24, s110_26, s110_29, s110_30, s110_33, s110_34, s110_36, s110_39, s110_40, s110_41, s110_44, s110_45, s110_47, s110_50, s110_52, s110_53, s110_54, s110_57, s110_60, s110_63, s110_65, s110_66, s110_67, s110_70, s110_71, s110_74, s110_75, s110_78, s110_79, s110_80, s110_81, s110_82, s110_85, s110_87, s110_89, s110_92, s110_94, s110_97, s110_99, aq_56 H, grS H hs, gr_2_12 H, gr_2_3 H, gr_2_7 H, gt_2 H, gt_29 H, gt_46 H, am110, isRf_ref, true_and, and_true, aPs_s, aPs_n, b01_0, b01_1, nI_clamp, ix_nI, inb_nI, lt_nI, eq_nI, nn_nI, eq0_nI, pk_mul, nI_add, lt_T, lt_F, if_true, if_false, true_and, and_true, neg1_nI, neg1_lt, neg1_neg, lt_neg1, eqN_F, eq_self,  c136', q0, q00, nn_nI, lr, e1, e2]
    · refine Pr_t (h1 := h) (v := -2) (fun Q => ?_) (no2 s es e94 (Or.inr (Or.inl er)))
      simp (disch := first | omega | assumption | exact gt_2 H | exact gt_29 H | exact gt_46 H | (simp only [gT_pA, gT_pI, gT_pR]; first | assumption | exact gt_2 H | exact gt_29 H | exact gt_46 H) | fail) only [s110_0, s110_1, s110_2, s110_5, s110_7, s110_9, s110_11, s110_14, s110_16, s110_18, s110_21, s110_23, s110_24, s110_26, s110_29, s110_30, s110_33, s110_34, s110_36, s110_39, s110_40, s110_41, s110_44, s110_45, s110_47, s110_50, s110_52, s110_53, s110_54, s110_57, s110_60, s110_63, s110_65, s110_66, s110_67, s110_70, s110_71, s110_74, s110_75, s110_78, s110_79, s110_80, s110_81, s110_82, s110_85, s110_87, s110_89, s110_92, s110_94, s110_97, s110_99, aq_56 H, grS H hs, gr_2_12 H, gr_2_3 H, gr_2_7 H, gt_2 H, gt_29 H, gt_46 H, am110, isRf_ref, true_and, and_true, aPs_s, aPs_n, b01_0, b01_1, nI_clamp, ix_nI, inb_nI, lt_nI, eq_nI, nn_nI, eq0_nI, pk_mul, nI_add, lt_T, lt_F, if_true, if_false, true_and, and_true, neg1_nI, neg1_lt, neg1_neg, lt_neg1, eqN_F, eq_self,  c136', q0, q00, nn_nI, e1]
    · have e3 : (room < (100000 : Int32)) = False := e3
      refine Pr_t (h1 := h) (v := -2) (fun Q => ?_) (no2 s es e94 (Or.inr (Or.inl er)))
      simp (disch := first | omega | assumption | exact gt_2 H | exact gt_29 H | exact gt_46 H | (simp only [gT_pA, gT_pI, gT_pR]; first | assumption | exact gt_2 H | exact gt_29 H | exact gt_46 H) | fail) only [s110_0, s110_1, s110_2, s110_5, s110_7, s110_9, s110_11, s110_14, s110_16, s110_18, s110_21, s110_23, s110_24, s110_26, s110_29, s110_30, s110_33, s110_34, s110_36, s110_39, s110_40, s110_41, s110_44, s110_45, s110_47, s110_50, s110_52, s110_53, s110_54, s110_57, s110_60, s110_63, s110_65, s110_66, s110_67, s110_70, s110_71, s110_74, s110_75, s110_78, s110_79, s110_80, s110_81, s110_82, s110_85, s110_87, s110_89, s110_92, s110_94, s110_97, s110_99, aq_56 H, grS H hs, gr_2_12 H, gr_2_3 H, gr_2_7 H, gt_2 H, gt_29 H, gt_46 H, am110, isRf_ref, true_and, and_true, aPs_s, aPs_n, b01_0, b01_1, nI_clamp, ix_nI, inb_nI, lt_nI, eq_nI, nn_nI, eq0_nI, pk_mul, nI_add, lt_T, lt_F, if_true, if_false, true_and, and_true, neg1_nI, neg1_lt, neg1_neg, lt_neg1, eqN_F, eq_self,  c136', q0, q00, nn_nI, e1, e3]
  · have hs : 0 < 4 := by decide
    rcases brI_n hb with ⟨e, e1⟩ | ⟨s, e1, ⟨e, e2⟩ | ⟨e, e2⟩⟩
    · rw [e] at c136'
      refine Pr_t (h1 := h) (v := -5) (fun Q => ?_) (fun Q2 hQ2 => t193 HM hP V T hz (fun _ => hQ2 h R') (fun s' e => by rw [e1] at e; cases e) (fun s' e => by rw [e1] at e; cases e) (fun s' _ _ _ _ _ _ e => by rw [e1] at e; cases e))
      simp (disch := first | omega | assumption | exact gt_2 H | exact gt_29 H | exact gt_46 H | (simp only [gT_pA, gT_pI, gT_pR]; first | assumption | exact gt_2 H | exact gt_29 H | exact gt_46 H) | fail) only [s110_0, s110_1, s110_2, s110_5, s110_7, s110_9, s110_11, s110_14, s110_16, s110_18, s110_21, s110_23, s110_24, s110_26, s110_29, s110_30, s110_33, s110_34, s110_36, s110_39, s110_40, s110_41, s110_44, s110_45, s110_47, s110_50, s110_52, s110_53, s110_54, s110_57, s110_60, s110_63, s110_65, s110_66, s110_67, s110_70, s110_71, s110_74, s110_75, s110_78, s110_79, s110_80, s110_81, s110_82, s110_85, s110_87, s110_89, s110_92, s110_94, s110_97, s110_99, aq_56 H, grS H hs, gr_2_12 H, gr_2_3 H, gr_2_7 H, gt_2 H, gt_29 H, gt_46 H, am110, isRf_ref, true_and, and_true, aPs_s, aPs_n, b01_0, b01_1, nI_clamp, ix_nI, inb_nI, lt_nI, eq_nI, nn_nI, eq0_nI, pk_mul, nI_add, lt_T, lt_F, if_true, if_false, true_and, and_true, neg1_nI, neg1_lt, neg1_neg, lt_neg1, eqN_F, eq_self,  c136']
    · rw [e] at c136'
      refine Pr_t (h1 := h) (v := -11) (fun Q => ?_) (fun Q2 hQ2 => t193 HM hP V T hz (fun e => by rw [e1] at e; cases e) (fun s' e _ => hQ2 h R') (fun s' e => by rw [e1] at e; cases e; exact fun q => absurd e2 q) (fun s' _ _ _ _ _ _ e => by rw [e1] at e; cases e; exact fun q => absurd e2 q))
      simp (disch := first | omega | assumption | exact gt_2 H | exact gt_29 H | exact gt_46 H | (simp only [gT_pA, gT_pI, gT_pR]; first | assumption | exact gt_2 H | exact gt_29 H | exact gt_46 H) | fail) only [s110_0, s110_1, s110_2, s110_5, s110_7, s110_9, s110_11, s110_14, s110_16, s110_18, s110_21, s110_23, s110_24, s110_26, s110_29, s110_30, s110_33, s110_34, s110_36, s110_39, s110_40, s110_41, s110_44, s110_45, s110_47, s110_50, s110_52, s110_53, s110_54, s110_57, s110_60, s110_63, s110_65, s110_66, s110_67, s110_70, s110_71, s110_74, s110_75, s110_78, s110_79, s110_80, s110_81, s110_82, s110_85, s110_87, s110_89, s110_92, s110_94, s110_97, s110_99, aq_56 H, grS H hs, gr_2_12 H, gr_2_3 H, gr_2_7 H, gt_2 H, gt_29 H, gt_46 H, am110, isRf_ref, true_and, and_true, aPs_s, aPs_n, b01_0, b01_1, nI_clamp, ix_nI, inb_nI, lt_nI, eq_nI, nn_nI, eq0_nI, pk_mul, nI_add, lt_T, lt_F, if_true, if_false, true_and, and_true, neg1_nI, neg1_lt, neg1_neg, lt_neg1, eqN_F, eq_self,  c136', q11]
    · rw [e] at c136'
      refine Pr_t (h1 := h) (v := -2) (fun Q => ?_) (no2 s e1 e2 (Or.inl hb))
      simp (disch := first | omega | assumption | exact gt_2 H | exact gt_29 H | exact gt_46 H | (simp only [gT_pA, gT_pI, gT_pR]; first | assumption | exact gt_2 H | exact gt_29 H | exact gt_46 H) | fail) only [s110_0, s110_1, s110_2, s110_5, s110_7, s110_9, s110_11, s110_14, s110_16, s110_18, s110_21, s110_23, s110_24, s110_26, s110_29, s110_30, s110_33, s110_34, s110_36, s110_39, s110_40, s110_41, s110_44, s110_45, s110_47, s110_50, s110_52, s110_53, s110_54, s110_57, s110_60, s110_63, s110_65, s110_66, s110_67, s110_70, s110_71, s110_74, s110_75, s110_78, s110_79, s110_80, s110_81, s110_82, s110_85, s110_87, s110_89, s110_92, s110_94, s110_97, s110_99, aq_56 H, grS H hs, gr_2_12 H, gr_2_3 H, gr_2_7 H, gt_2 H, gt_29 H, gt_46 H, am110, isRf_ref, true_and, and_true, aPs_s, aPs_n, b01_0, b01_1, nI_clamp, ix_nI, inb_nI, lt_nI, eq_nI, nn_nI, eq0_nI, pk_mul, nI_add, lt_T, lt_F, if_true, if_false, true_and, and_true, neg1_nI, neg1_lt, neg1_neg, lt_neg1, eqN_F, eq_self,  c136', q2, q22, m2]
end R5
