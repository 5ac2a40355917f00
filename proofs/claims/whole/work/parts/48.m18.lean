/-! THE REFERENCE: height, heightAt -/
def hdB (n : Nat) (l : List (List Nat)) : Bool := match l with
  | [] => false
  | r :: _ => (List.range n).all (fun k => gf r k == k)
theorem rws_hd : ∀ n, n ≤ 6 → ∃ r l, rws n = r :: l ∧ ∀ k, k < n → gf r k = k := by
  intro n hn
  have key : hdB n (rws n) = true := by
    rcases (show n = 0 ∨ n = 1 ∨ n = 2 ∨ n = 3 ∨ n = 4 ∨ n = 5 ∨ n = 6 by omega) with rfl | rfl | rfl | rfl | rfl | rfl | rfl
    · decide +kernel
    · decide +kernel
    · decide +kernel
    · decide +kernel
    · decide +kernel
    · decide +kernel
    · decide +kernel
  cases hq : rws n with
  | nil => rw [hq] at key; cases key
  | cons r l =>
    rw [hq] at key
    refine ⟨r, l, rfl, fun k hk => ?_⟩
    have key : (List.range n).all (fun k => gf r k == k) = true := key
    rw [List.all_eq_true] at key
    exact eq_of_beq (key k (List.mem_range.mpr hk))
section M18
variable {d : Nat} {h : abH} {Q : Option Value → abH → Prop}
set_option maxHeartbeats 4000000 in
theorem c185_22 (HM : KM h) {P : Nat → Nat → Int32} (hP : pv h = P) (V : okP P) {o bb : Nat → Nat} (O : ovH h P o) {s n : Nat} (hs : s < 4) (hn : n ≤ 6) (hz : gI h 95 s = nI n) (B : shH h s n bb) {l2 l3 l4 l5 l6 l7 : Value} (hQ : ∀ h2, Fm h h2 → Q (some (.int (oI (hgT P o bb n (hgF P o bb n none (rws n)))))) (pI (pA h2 90 (hgA P o bb n (hgF P o bb n none (rws n)) (gI h 90))) 65 30 (nI n))) : aW (d + 3) 185 22 [.ref 65, .int (nI s), l2, l3, l4, l5, l6, l7] [] h Q := by
  have loop := for_0 (F := fun i => aW (d + 3) 185 32 [.ref 65, .int (nI s), l2, .int (nI n), .int (nI i), l5, l6, l7] [] (pA h 101 (pre nI i (gI h 101))) Q) (R := True) n (by
    have HM2 : KM (pA h 101 (pre nI n (gI h 101))) := HM
    rw [s185_32]
    simp (disch := first | omega | assumption | exact gt_65 HM2 | fail) only [s185_0, s185_1, s185_2, s185_5, s185_6, s185_7, s185_10, s185_11, s185_12, s185_13, s185_16, s185_19, s185_21, s185_23, s185_26, s185_27, s185_28, s185_29, s185_30, s185_34, s185_35, s185_38, s185_39, s185_42, s185_44, s185_46, s185_47, s185_50, s185_53, s185_54, s185_56, s185_57, s185_61, s185_64, s185_65, s185_66, s185_67, s185_70, s185_72, s185_74, s185_75, s185_78, s185_80, s185_82, s185_87, s185_89, s185_90, s185_94, s185_95, s185_98, s185_99, s185_102, s185_104, s185_105, s185_108, s185_110, s185_111, s185_112, s185_115, s185_119, s185_120, s185_123, s185_125, s185_129, s185_130, s185_133, s185_135, ai_102 HM2, ai_95 HM2, aj_101 HM2, aj_90 HM2, gr_65_31 HM2, gr_65_43 HM2, gr_65_50 HM2, gr_65_51 HM2, gt_65 HM2, am185, isRf_ref, true_and, and_true, aPs_s, aPs_n, b01_0, b01_1, nI_clamp, ix_nI, inb_nI, lt_nI, eq_nI, nn_nI, eq0_nI, pk_mul, nI_add, lt_T, lt_F, if_true, if_false, true_and, and_true, neg1_nI, neg1_lt, neg1_neg, lt_neg1, eqN_F, eq_self,  Nat.lt_irrefl]
    obtain ⟨r, l, e1, e2⟩ := rws_hd n hn
    have hch := chn_rws n hn
    rw [e1] at hch hQ
    have start := c185_59 (d := d) (Q := Q) HM hP V O hs hn B (l2 := l2) (C := True) (g := gI h 90) l r none (pre nI n (gI h 101)) (gI h 102) l6 l7 (fun b hb => by cases hb) hch (fun k hk => by rw [pre_in hk, e2 k hk]) (fun R L l6 l7 => by
      have HM3 : KM (hG h R (hgA P o bb n (hgF P o bb n none (r :: l)) (gI h 90)) L) := HM
      have t65 := gt_65 HM3
      have HM4 : KM (pI (hG h R (hgA P o bb n (hgF P o bb n none (r :: l)) (gI h 90)) L) 65 30 (nI n)) := HM
      rw [s185_128]
      simp (disch := first | omega | assumption | exact gt_65 HM3 | fail) only [s185_0, s185_1, s185_2, s185_5, s185_6, s185_7, s185_10, s185_11, s185_12, s185_13, s185_16, s185_19, s185_21, s185_23, s185_26, s185_27, s185_28, s185_29, s185_30, s185_34, s185_35, s185_38, s185_39, s185_42, s185_44, s185_46, s185_47, s185_50, s185_53, s185_54, s185_56, s185_57, s185_61, s185_64, s185_65, s185_66, s185_67, s185_70, s185_72, s185_74, s185_75, s185_78, s185_80, s185_82, s185_87, s185_89, s185_90, s185_94, s185_95, s185_98, s185_99, s185_102, s185_104, s185_105, s185_108, s185_110, s185_111, s185_112, s185_115, s185_119, s185_120, s185_123, s185_125, s185_129, s185_130, s185_133, s185_135, ai_102 HM3, ai_95 HM3, aj_101 HM3, aj_90 HM3, gr_65_31 HM3, gr_65_43 HM3, gr_65_50 HM3, gr_65_51 HM3, gt_65 HM3, am185, isRf_ref, true_and, and_true, aPs_s, aPs_n, b01_0, b01_1, nI_clamp, ix_nI, inb_nI, lt_nI, eq_nI, nn_nI, eq0_nI, pk_mul, nI_add, lt_T, lt_F, if_true, if_false, true_and, and_true, neg1_nI, neg1_lt, neg1_neg, lt_neg1, eqN_F, eq_self, ]
      have F : Fm h (pA (pA h 101 R) 102 L) := Fm_trans (Fm_pA (by decide)) (Fm_pA (by decide))
      have e3 : hG h R (hgA P o bb n (hgF P o bb n none (r :: l)) (gI h 90)) L = pA (pA (pA h 101 R) 102 L) 90 (hgA P o bb n (hgF P o bb n none (r :: l)) (gI h 90)) := by
        unfold hG
        rw [pA_comm (show 90 ≠ 102 by decide)]
      rw [e3]
      exact eq_true (hQ _ F))
    have e4 : hG h (pre nI n (gI h 101)) (hgA P o bb n none (gI h 90)) (gI h 102) = pA h 101 (pre nI n (gI h 101)) := by
      unfold hG hgA
      rw [show gI h 90 = gI (pA h 101 (pre nI n (gI h 101))) 90 from rfl, pA_self, show gI h 102 = gI (pA h 101 (pre nI n (gI h 101))) 102 from rfl, pA_self]
    rw [e4] at start
    exact start) (fun i hi => by
    have HM2 : KM (pA h 101 (pre nI i (gI h 101))) := HM
    have i6 : i < 6 := by omega
    have up : pI (pA h 101 (pre nI i (gI h 101))) 101 i (nI i) = pA h 101 (pre nI (i + 1) (gI h 101)) := by
      rw [pI_pA, pre_upd]
    rw [s185_32]
    simp (disch := first | omega | assumption | exact gt_65 HM2 | fail) only [s185_0, s185_1, s185_2, s185_5, s185_6, s185_7, s185_10, s185_11, s185_12, s185_13, s185_16, s185_19, s185_21, s185_23, s185_26, s185_27, s185_28, s185_29, s185_30, s185_34, s185_35, s185_38, s185_39, s185_42, s185_44, s185_46, s185_47, s185_50, s185_53, s185_54, s185_56, s185_57, s185_61, s185_64, s185_65, s185_66, s185_67, s185_70, s185_72, s185_74, s185_75, s185_78, s185_80, s185_82, s185_87, s185_89, s185_90, s185_94, s185_95, s185_98, s185_99, s185_102, s185_104, s185_105, s185_108, s185_110, s185_111, s185_112, s185_115, s185_119, s185_120, s185_123, s185_125, s185_129, s185_130, s185_133, s185_135, ai_102 HM2, ai_95 HM2, aj_101 HM2, aj_90 HM2, gr_65_31 HM2, gr_65_43 HM2, gr_65_50 HM2, gr_65_51 HM2, gt_65 HM2, am185, isRf_ref, true_and, and_true, aPs_s, aPs_n, b01_0, b01_1, nI_clamp, ix_nI, inb_nI, lt_nI, eq_nI, nn_nI, eq0_nI, pk_mul, nI_add, lt_T, lt_F, if_true, if_false, true_and, and_true, neg1_nI, neg1_lt, neg1_neg, lt_neg1, eqN_F, eq_self,  up])
  rw [s185_22]
  simp (disch := first | omega | assumption | exact gt_65 HM | fail) only [s185_0, s185_1, s185_2, s185_5, s185_6, s185_7, s185_10, s185_11, s185_12, s185_13, s185_16, s185_19, s185_21, s185_23, s185_26, s185_27, s185_28, s185_29, s185_30, s185_34, s185_35, s185_38, s185_39, s185_42, s185_44, s185_46, s185_47, s185_50, s185_53, s185_54, s185_56, s185_57, s185_61, s185_64, s185_65, s185_66, s185_67, s185_70, s185_72, s185_74, s185_75, s185_78, s185_80, s185_82, s185_87, s185_89, s185_90, s185_94, s185_95, s185_98, s185_99, s185_102, s185_104, s185_105, s185_108, s185_110, s185_111, s185_112, s185_115, s185_119, s185_120, s185_123, s185_125, s185_129, s185_130, s185_133, s185_135, ai_102 HM, ai_95 HM, aj_101 HM, aj_90 HM, gr_65_31 HM, gr_65_43 HM, gr_65_50 HM, gr_65_51 HM, gt_65 HM, am185, isRf_ref, true_and, and_true, aPs_s, aPs_n, b01_0, b01_1, nI_clamp, ix_nI, inb_nI, lt_nI, eq_nI, nn_nI, eq0_nI, pk_mul, nI_add, lt_T, lt_F, if_true, if_false, true_and, and_true, neg1_nI, neg1_lt, neg1_neg, lt_neg1, eqN_F, eq_self,  hz, hs]
  rw [pre_0, pA_self] at loop
  exact of_eq_true loop
/-- what is told of a SHEET of BUFFERS that nothing bars -/
theorem brI_0 {P : Nat → Nat → Int32} {k : Int32} (hz : ∀ s, s < 4 → bn (gI h 95 s) 41) (hb : brI P h k = nI 0) : ∃ s n bb, s < 4 ∧ k = nI s ∧ plc k 4 = some s ∧ gI h 94 s ≠ -1 ∧ gI h 95 s = nI n ∧ n ≤ 6 ∧ shH h s n bb ∧ ∀ i, i < n → bf P (cRow h s i) = some (bb i) := by
  unfold brI at hb
  rcases plc_cases k 4 (by omega) with ⟨s, hs, rfl, e⟩ | ⟨e, _⟩ | ⟨e, _⟩
  · rw [e] at hb
    simp only at hb
    by_cases h1 : gI h 94 s = -1
    · rw [if_pos h1] at hb
      exact absurd hb (by decide)
    · rw [if_neg h1] at hb
      obtain ⟨z, hz1, hz2⟩ := bn_of (hz s hs)
      rw [hz2, ix_nI (by omega)] at hb
      by_cases h2 : nI 6 < nI z
      · rw [if_pos h2] at hb
        exact absurd hb (by decide)
      · rw [if_neg h2] at hb
        rw [lt_nI (by decide) (by omega)] at h2
        cases hq : fst1 (fun i => (bf P (cRow h s i)).isNone) z 0 with
        | some _ => rw [hq] at hb; exact absurd (show (-2 : Int32) = nI 0 from hb) (by decide)
        | none =>
          have hall := fst1_none.mp hq
          have ex : ∀ i, i < z → bf P (cRow h s i) = some ((bf P (cRow h s i)).getD 0) := by
            intro i hi
            have := hall i (Nat.zero_le _) (by omega)
            cases hb2 : bf P (cRow h s i) with
            | none => rw [hb2] at this; cases this
            | some b => rfl
          refine ⟨s, z, fun i => (bf P (cRow h s i)).getD 0, hs, rfl, e, h1, hz2, by omega, fun i hi => ?_, ex⟩
          have := ex i hi
          rcases bf_cases P (cRow h s i) with ⟨b, hb1, hb2, hb3, _⟩ | hb3
          · show gI h 96 (40 * s + i) = nI ((bf P (cRow h s i)).getD 0) ∧ (bf P (cRow h s i)).getD 0 < 12
            rw [hb3]
            exact ⟨hb2, hb1⟩
          · rw [hb3] at this; cases this
  · rw [e] at hb
    exact absurd (show (-5 : Int32) = nI 0 from hb) (by decide)
  · rw [e] at hb
    exact absurd (show (-5 : Int32) = nI 0 from hb) (by decide)
set_option maxHeartbeats 4000000 in
theorem t185 (HM : KM h) {P : Nat → Nat → Int32} (hP : pv h = P) (V : okP P) {tl : Option (Nat → Nat)} (T : toH h P tl) (hz : ∀ s, s < 4 → bn (gI h 95 s) 41) {k : Int32} (hQ1 : brI P h k ≠ nI 0 → Q (some (.int (brI P h k))) h) (hQ2 : ∀ s n bb, s < 4 → k = nI s → plc k 4 = some s → gI h 95 s = nI n → n ≤ 6 → shH h s n bb → brI P h k = nI 0 → ∀ h2, Fm h h2 → (oRD P tl = none → Q (some (.int (-3))) h2) ∧ ∀ o, oRD P tl = some o → Q (some (.int (oI (hgT P o bb n (hgF P o bb n none (rws n)))))) (pI (pA h2 90 (hgA P o bb n (hgF P o bb n none (rws n)) (gI h 90))) 65 30 (nI n))) : aM (d + 3) 185 [.ref 65, .int k] h Q := by
  have c184' : ∀ Q', aM (d + 2) 184 [.ref 65, .int k] h Q' = Q' (some (.int (brI P h k))) h := fun Q' => c184 HM hP hz
  simp (disch := first | omega | assumption | exact gt_65 HM | fail) only [s185_0, s185_1, s185_2, s185_5, s185_6, s185_7, s185_10, s185_11, s185_13, s185_16, s185_19, s185_21, s185_23, s185_26, s185_27, s185_28, s185_29, s185_30, s185_32, s185_34, s185_35, s185_38, s185_39, s185_42, s185_44, s185_46, s185_47, s185_50, s185_53, s185_54, s185_56, s185_57, s185_59, s185_61, s185_64, s185_65, s185_66, s185_67, s185_70, s185_72, s185_74, s185_75, s185_78, s185_80, s185_82, s185_85, s185_87, s185_89, s185_90, s185_92, s185_94, s185_95, s185_98, s185_99, s185_102, s185_104, s185_105, s185_108, s185_110, s185_111, s185_112, s185_115, s185_118, s185_119, s185_120, s185_123, s185_125, s185_128, s185_129, s185_130, s185_133, s185_135, ai_102 HM, ai_95 HM, aj_101 HM, aj_90 HM, gr_65_31 HM, gr_65_43 HM, gr_65_50 HM, gr_65_51 HM, gt_65 HM, am185, isRf_ref, true_and, and_true, aPs_s, aPs_n, b01_0, b01_1, nI_clamp, ix_nI, inb_nI, lt_nI, eq_nI, nn_nI, eq0_nI, pk_mul, nI_add, lt_T, lt_F, if_true, if_false, true_and, and_true, neg1_nI, neg1_lt, neg1_neg, lt_neg1, eqN_F, eq_self,  c184']
  by_cases hb : brI P h k = 0
  · simp only [hb, if_true]
    rw [← nI_0] at hb
    obtain ⟨s, n, bb, hs, hk, e, _, hn1, hn2, B, _⟩ := brI_0 hz hb
    subst hk
    rw [s185_12]
    simp (disch := first | omega | assumption | exact gt_65 HM | fail) only [s185_0, s185_1, s185_2, s185_5, s185_6, s185_7, s185_10, s185_11, s185_12, s185_13, s185_16, s185_19, s185_21, s185_23, s185_26, s185_27, s185_28, s185_29, s185_30, s185_32, s185_34, s185_35, s185_38, s185_39, s185_42, s185_44, s185_46, s185_47, s185_50, s185_53, s185_54, s185_56, s185_57, s185_59, s185_61, s185_64, s185_65, s185_66, s185_67, s185_70, s185_72, s185_74, s185_75, s185_78, s185_80, s185_82, s185_85, s185_87, s185_89, s185_90, s185_92, s185_94, s185_95, s185_98, s185_99, s185_102, s185_104, s185_105, s185_108, s185_110, s185_111, s185_112, s185_115, s185_118, s185_119, s185_120, s185_123, s185_125, s185_128, s185_129, s185_130, s185_133, s185_135, ai_102 HM, ai_95 HM, aj_101 HM, aj_90 HM, gr_65_31 HM, gr_65_43 HM, gr_65_50 HM, gr_65_51 HM, gt_65 HM, am185, isRf_ref, true_and, and_true, aPs_s, aPs_n, b01_0, b01_1, nI_clamp, ix_nI, inb_nI, lt_nI, eq_nI, nn_nI, eq0_nI, pk_mul, nI_add, lt_T, lt_F, if_true, if_false, true_and, and_true, neg1_nI, neg1_lt, neg1_neg, lt_neg1, eqN_F, eq_self, ]
    have q2 := hQ2 s n bb hs rfl e hn1 hn2 B hb
    refine c163q HM hP V T (fun h' F => ?_)
    have HM2 := Fm_KM F HM
    cases hq : oRD P tl with
    | none =>
      refine Or.inl ⟨rfl, ?_⟩
      simp (disch := first | omega | assumption | exact gt_65 HM2 | fail) only [s185_0, s185_1, s185_2, s185_5, s185_6, s185_7, s185_10, s185_11, s185_12, s185_13, s185_16, s185_19, s185_21, s185_23, s185_26, s185_27, s185_28, s185_29, s185_30, s185_32, s185_34, s185_35, s185_38, s185_39, s185_42, s185_44, s185_46, s185_47, s185_50, s185_53, s185_54, s185_56, s185_57, s185_59, s185_61, s185_64, s185_65, s185_66, s185_67, s185_70, s185_72, s185_74, s185_75, s185_78, s185_80, s185_82, s185_85, s185_87, s185_89, s185_90, s185_92, s185_94, s185_95, s185_98, s185_99, s185_102, s185_104, s185_105, s185_108, s185_110, s185_111, s185_112, s185_115, s185_118, s185_119, s185_120, s185_123, s185_125, s185_128, s185_129, s185_130, s185_133, s185_135, ai_102 HM2, ai_95 HM2, aj_101 HM2, aj_90 HM2, gr_65_31 HM2, gr_65_43 HM2, gr_65_50 HM2, gr_65_51 HM2, gt_65 HM2, am185, isRf_ref, true_and, and_true, aPs_s, aPs_n, b01_0, b01_1, nI_clamp, ix_nI, inb_nI, lt_nI, eq_nI, nn_nI, eq0_nI, pk_mul, nI_add, lt_T, lt_F, if_true, if_false, true_and, and_true, neg1_nI, neg1_lt, neg1_neg, lt_neg1, eqN_F, eq_self,  Bool.not_false, Bool.not_true, Bool.true_and, Bool.false_and, Bool.and_true, Bool.and_false, Bool.or_true, Bool.or_false, Bool.true_or, Bool.false_or, Bool.true_eq_false, Bool.false_eq_true, if_true, if_false, Option.isSome_some, Option.isSome_none, Option.isNone_some, Option.isNone_none, zB_t, zB_f, nI1_0, nI0_0]
      exact (q2 h' F).1 hq
    | some o =>
      refine Or.inr ⟨o, rfl, fun O => ?_⟩
      simp (disch := first | omega | assumption | exact gt_65 HM2 | fail) only [s185_0, s185_1, s185_2, s185_5, s185_6, s185_7, s185_10, s185_11, s185_12, s185_13, s185_16, s185_19, s185_21, s185_23, s185_26, s185_27, s185_28, s185_29, s185_30, s185_32, s185_34, s185_35, s185_38, s185_39, s185_42, s185_44, s185_46, s185_47, s185_50, s185_53, s185_54, s185_56, s185_57, s185_59, s185_61, s185_64, s185_65, s185_66, s185_67, s185_70, s185_72, s185_74, s185_75, s185_78, s185_80, s185_82, s185_85, s185_87, s185_89, s185_90, s185_92, s185_94, s185_95, s185_98, s185_99, s185_102, s185_104, s185_105, s185_108, s185_110, s185_111, s185_112, s185_115, s185_118, s185_119, s185_120, s185_123, s185_125, s185_128, s185_129, s185_130, s185_133, s185_135, ai_102 HM2, ai_95 HM2, aj_101 HM2, aj_90 HM2, gr_65_31 HM2, gr_65_43 HM2, gr_65_50 HM2, gr_65_51 HM2, gt_65 HM2, am185, isRf_ref, true_and, and_true, aPs_s, aPs_n, b01_0, b01_1, nI_clamp, ix_nI, inb_nI, lt_nI, eq_nI, nn_nI, eq0_nI, pk_mul, nI_add, lt_T, lt_F, if_true, if_false, true_and, and_true, neg1_nI, neg1_lt, neg1_neg, lt_neg1, eqN_F, eq_self,  Bool.not_false, Bool.not_true, Bool.true_and, Bool.false_and, Bool.and_true, Bool.and_false, Bool.or_true, Bool.or_false, Bool.true_or, Bool.false_or, Bool.true_eq_false, Bool.false_eq_true, if_true, if_false, Option.isSome_some, Option.isSome_none, Option.isNone_some, Option.isNone_none, zB_t, zB_f, nI1_0, nI0_0]
      have e95 : gI h' 95 s = nI n := by rw [F.2.2.1 95 (by decide) (by decide)]; exact hn1
      have B2 : shH h' s n bb := by intro i hi; rw [F.2.2.1 96 (by decide) (by decide)]; exact B i hi
      refine c185_22 HM2 ((Fm_pv F).trans hP) V O hs hn2 e95 B2 (fun h2 F2 => ?_)
      rw [F.2.2.1 90 (by decide) (by decide)]
      exact (q2 h2 (Fm_trans F F2)).2 o hq
  · simp only [hb, if_false]
    exact hQ1 (by rw [nI_0]; exact hb)
theorem t186 (HM : KM h) {n : Nat} (hn : n ≤ 6) (h30 : gI h 65 30 = nI n) {k : Int32} (hQ : Q (some (.int (match plc k n with
    | none => -5
    | some i => gI h 90 i))) h) : aM (d + 1) 186 [.ref 65, .int k] h Q := by
  have hin := in_pls (k := k) (n := n) (by omega)
  simp (disch := first | omega | assumption | exact gt_65 HM | fail) only [s186_0, s186_1, s186_2, s186_3, s186_6, s186_7, s186_8, s186_11, s186_14, s186_15, s186_18, s186_19, s186_20, s186_23, s186_25, ai_90 HM, gr_65_31 HM, gt_65 HM, am186, isRf_ref, true_and, and_true, aPs_s, aPs_n, b01_0, b01_1, nI_clamp, ix_nI, inb_nI, lt_nI, eq_nI, nn_nI, eq0_nI, pk_mul, nI_add, lt_T, lt_F, if_true, if_false, true_and, and_true, neg1_nI, neg1_lt, neg1_neg, lt_neg1, eqN_F, eq_self,  c139, h30, hin]
  rcases plc_cases k n (by omega) with ⟨s, hs, rfl, e⟩ | ⟨e, _⟩ | ⟨e, _⟩
  · rw [e] at hQ
    have s6 : s < 6 := by omega
    simp (disch := first | omega | assumption | exact gt_65 HM | fail) only [s186_0, s186_1, s186_2, s186_3, s186_6, s186_7, s186_8, s186_11, s186_14, s186_15, s186_18, s186_19, s186_20, s186_23, s186_25, ai_90 HM, gr_65_31 HM, gt_65 HM, am186, isRf_ref, true_and, and_true, aPs_s, aPs_n, b01_0, b01_1, nI_clamp, ix_nI, inb_nI, lt_nI, eq_nI, nn_nI, eq0_nI, pk_mul, nI_add, lt_T, lt_F, if_true, if_false, true_and, and_true, neg1_nI, neg1_lt, neg1_neg, lt_neg1, eqN_F, eq_self,  e, Bool.not_false, Bool.not_true, Bool.true_and, Bool.false_and, Bool.and_true, Bool.and_false, Bool.or_true, Bool.or_false, Bool.true_or, Bool.false_or, Bool.true_eq_false, Bool.false_eq_true, if_true, if_false, Option.isSome_some, Option.isSome_none, Option.isNone_some, Option.isNone_none, zB_t, zB_f, nI1_0, nI0_0]
    exact hQ
  · rw [e] at hQ
    simp (disch := first | omega | assumption | exact gt_65 HM | fail) only [s186_0, s186_1, s186_2, s186_3, s186_6, s186_7, s186_8, s186_11, s186_14, s186_15, s186_18, s186_19, s186_20, s186_23, s186_25, ai_90 HM, gr_65_31 HM, gt_65 HM, am186, isRf_ref, true_and, and_true, aPs_s, aPs_n, b01_0, b01_1, nI_clamp, ix_nI, inb_nI, lt_nI, eq_nI, nn_nI, eq0_nI, pk_mul, nI_add, lt_T, lt_F, if_true, if_false, true_and, and_true, neg1_nI, neg1_lt, neg1_neg, lt_neg1, eqN_F, eq_self,  e, Bool.not_false, Bool.not_true, Bool.true_and, Bool.false_and, Bool.and_true, Bool.and_false, Bool.or_true, Bool.or_false, Bool.true_or, Bool.false_or, Bool.true_eq_false, Bool.false_eq_true, if_true, if_false, Option.isSome_some, Option.isSome_none, Option.isNone_some, Option.isNone_none, zB_t, zB_f, nI1_0, nI0_0]
    exact hQ
  · rw [e] at hQ
    simp (disch := first | omega | assumption | exact gt_65 HM | fail) only [s186_0, s186_1, s186_2, s186_3, s186_6, s186_7, s186_8, s186_11, s186_14, s186_15, s186_18, s186_19, s186_20, s186_23, s186_25, ai_90 HM, gr_65_31 HM, gt_65 HM, am186, isRf_ref, true_and, and_true, aPs_s, aPs_n, b01_0, b01_1, nI_clamp, ix_nI, inb_nI, lt_nI, eq_nI, nn_nI, eq0_nI, pk_mul, nI_add, lt_T, lt_F, if_true, if_false, true_and, and_true, neg1_nI, neg1_lt, neg1_neg, lt_neg1, eqN_F, eq_self,  e, Bool.not_false, Bool.not_true, Bool.true_and, Bool.false_and, Bool.and_true, Bool.and_false, Bool.or_true, Bool.or_false, Bool.true_or, Bool.false_or, Bool.true_eq_false, Bool.false_eq_true, if_true, if_false, Option.isSome_some, Option.isSome_none, Option.isNone_some, Option.isNone_none, zB_t, zB_f, nI1_0, nI0_0]
    exact hQ
end M18
