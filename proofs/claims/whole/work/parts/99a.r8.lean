/-! BOTH SIDES, call by call: the PLAN by a SHEET, the TAPE -/
theorem ldN_cg {P : Nat → Nat → Int32} {c : Nat → Int32} {fr : Nat} {g g' : Nat → Int32} (hg : ∀ b, b < 12 → g b = g' b) : ∀ {k : Nat}, (∀ b, b < 12 → (ldN P c fr g k).1 b = (ldN P c fr g' k).1 b) ∧ (ldN P c fr g k).2 = (ldN P c fr g' k).2 := by
  intro k
  induction k with
  | zero => exact ⟨hg, rfl⟩
  | succ k ih =>
    rw [ldN, ldN]
    cases hq : bf P (c (fr + 2 * k)) with
    | none => exact ih
    | some b =>
      simp only
      by_cases hp : plI (c (fr + 2 * k + 1)) = true
      · rw [if_pos hp, if_pos hp]
        refine ⟨fun b' hb' => ?_, by rw [ih.2]⟩
        by_cases e : b' = b
        · simp only [e, upd_eq]
        · simp only [upd_ne e]
          exact ih.1 b' hb'
      · rw [if_neg hp, if_neg hp]
        exact ih
section R8
variable {d : Nat} {h0 h : abH} {Q : Option Value → abH → Prop}
set_option maxHeartbeats 8000000 in
theorem c127_67 (H : KC h) {p : Nat} (hp : p = 5 ∨ p = 17) (r21 : gR h 2 1 = .ref p) {P : Nat → Nat → Int32} (W : okW P) (C : CP h p P) {s z m : Nat} (hs : s < 4) (e1 : gI h (57 + 2 * s) 1 = nI z) (hz2 : z ≤ 40) (hm : m ≤ 20) {c : Nat → Int32} (ec : ∀ k, k < 40 → gI h (58 + 2 * s) k = c k) {fr : Int32} {l1 l2 l8 l9 : Value} : aW (d + 3) 127 67 [.ref 2, l1, l2, .int fr, .int (nI m), .ref (57 + 2 * s), .int (nI 0), .int (nI 0), l8, l9] [] h Q = (match fst1 (fun k => !ldG (nI z) fr k) m 0 with
    | some k => Q (some (.int (-12))) (pA h 45 (ldN P c fr.toInt.toNat (gI h 45) k).1)
    | none => Q (some (.int (nI (ldN P c fr.toInt.toNat (gI h 45) m).2))) (pA h 45 (ldN P c fr.toInt.toNat (gI h 45) m).1)) := by
  have loop := for_d4 (α := Value) (β := Value) (γ := Unit) (δ := Unit) (F := fun k x y _ _ => aW (d + 3) 127 67 [.ref 2, l1, l2, .int fr, .int (nI m), .ref (57 + 2 * s), .int (nI (ldN P c fr.toInt.toNat (gI h 45) k).2), .int (nI k), x, y] [] (pA h 45 (ldN P c fr.toInt.toNat (gI h 45) k).1) Q) (R := fun k => (match fst1 (fun k => !ldG (nI z) fr k) (m - k) k with
    | some k => Q (some (.int (-12))) (pA h 45 (ldN P c fr.toInt.toNat (gI h 45) k).1)
    | none => Q (some (.int (nI (ldN P c fr.toInt.toNat (gI h 45) m).2))) (pA h 45 (ldN P c fr.toInt.toNat (gI h 45) m).1))) m (fun x y _ _ => by
    have H2 : KC (pA h 45 (ldN P c fr.toInt.toNat (gI h 45) m).1) := H
    rw [s127_67, fst1_end]
    simp (disch := first | omega | assumption | exact gtS H2 hs | exact gt_2 H2 | (simp only [gT_pA, gT_pI, gT_pR]; first | assumption | exact gtS H2 hs | exact gt_2 H2) | fail) only [s127_0, s127_1, s127_4, s127_7, s127_8, s127_11, s127_14, s127_16, s127_19, s127_21, s127_23, s127_26, s127_28, s127_29, s127_30, s127_33, s127_34, s127_35, s127_37, s127_39, s127_42, s127_43, s127_46, s127_48, s127_49, s127_51, s127_54, s127_55, s127_58, s127_60, s127_61, s127_62, s127_64, s127_65, s127_69, s127_71, s127_74, s127_76, s127_77, s127_78, s127_80, s127_81, s127_82, s127_83, s127_86, s127_89, s127_91, s127_92, s127_94, s127_97, s127_98, s127_99, s127_101, s127_102, s127_103, s127_104, s127_106, s127_108, s127_111, s127_112, s127_113, s127_115, s127_116, s127_117, s127_118, s127_119, s127_120, s127_122, s127_123, s127_126, s127_128, s127_131, s127_134, s127_136, s127_139, s127_142, s127_143, s127_146, s127_148, s127_150, s127_151, s127_154, s127_157, s127_160, s127_162, aiS H2 hs, aj_45 H2, aq_56 H2, grS H2 hs, grS2 H2 hs, gr_2_12 H2, gr_2_6 H2, gtS H2 hs, gt_2 H2, am127, isRf_ref, true_and, and_true, aPs_s, aPs_n, b01_0, b01_1, nI_clamp, ix_nI, inb_nI, lt_nI, eq_nI, nn_nI, eq0_nI, pk_mul, nI_add, lt_T, lt_F, if_true, if_false, true_and, and_true, neg1_nI, neg1_lt, neg1_neg, lt_neg1, eqN_F, eq_self,  Nat.lt_irrefl]) (fun k hk ih x y _ _ => by
    have H2 : KC (pA h 45 (ldN P c fr.toInt.toNat (gI h 45) k).1) := H
    have tS := gtS H2 hs
    have tN := grS2 H2 hs
    have tA := aiS H2 hs
    have e1' : gI (pA h 45 (ldN P c fr.toInt.toNat (gI h 45) k).1) (57 + 2 * s) 1 = nI z := by rw [gI_ne (by omega)]; exact e1
    have r21' : gR (pA h 45 (ldN P c fr.toInt.toNat (gI h 45) k).1) 2 1 = .ref p := r21
    have C' : CP (pA h 45 (ldN P c fr.toInt.toNat (gI h 45) k).1) p P := CPg_of (fun o k q1 q2 => by rw [gI_ne (by omega)]) C
    have tP := gtP H2 hp
    have c80' : ∀ Q', aM (d + 2) 80 [.ref (57 + 2 * s), .int fr, .int (nI (2 * k + 2))] (pA h 45 (ldN P c fr.toInt.toNat (gI h 45) k).1) Q' = Q' (some (.int (zB (spB (nI z) fr (nI (2 * k + 2)))))) (pA h 45 (ldN P c fr.toInt.toNat (gI h 45) k).1) := fun Q' => c80 H2 hs hz2 e1'
    rw [s127_67, fst1_step hk]
    unfold ldG at ih ⊢
    rcases Bool.eq_false_or_eq_true (spB (nI z) fr (nI (2 * k + 2))) with g | g
    · obtain ⟨a, n, rfl, en, han⟩ := spB_of (by omega) g
      have hn : n = 2 * k + 2 := by
        by_cases hb : n < 2 ^ 31
        · exact ((eq_nI (show 2 * k + 2 < 2 ^ 31 by omega) hb).mp en).symm
        · omega
      subst hn
      have ea : (nI a).toInt.toNat = a := by rw [nI_toInt (by omega)]; omega
      rw [ea] at ih H2 e1' r21' C' tS tN tA tP c80' ⊢
      rw [g] at c80'
      have r1 : gI (pA h 45 (ldN P c a (gI h 45) k).1) (58 + 2 * s) (a + 2 * k) = c (a + 2 * k) := by rw [gI_ne (by omega)]; exact ec _ (by omega)
      have r2 : gI (pA h 45 (ldN P c a (gI h 45) k).1) (58 + 2 * s) (a + 2 * k + 1) = c (a + 2 * k + 1) := by rw [gI_ne (by omega)]; exact ec _ (by omega)
      have r2' : gI (pA h 45 (ldN P c a (gI h 45) k).1) (58 + 2 * s) (a + (2 * k + 1)) = c (a + 2 * k + 1) := r2
      have c44' : ∀ Q', aM (d + 2) 44 [.ref p, .int (c (a + 2 * k))] (pA h 45 (ldN P c a (gI h 45) k).1) Q' = Q' (some (.int (zB (bf P (c (a + 2 * k))).isSome))) (pA h 45 (ldN P c a (gI h 45) k).1) := fun Q' => c44 H2 hp C' W
      have c131' : ∀ Q', aM (d + 2) 131 [.int (c (a + 2 * k + 1))] (pA h 45 (ldN P c a (gI h 45) k).1) Q' = Q' (some (.int (zB (plI (c (a + 2 * k + 1)))))) (pA h 45 (ldN P c a (gI h 45) k).1) := fun Q' => c131
      have ih2 := fun x y => ih x y () ()
      cases hb : bf P (c (a + 2 * k)) with
      | none =>
        rw [hb] at c44'
        simp only [ldN, hb] at ih2
        simp (disch := first | omega | assumption | exact gtP H2 hp | exact gtS H2 hs | exact gt_2 H2 | (simp only [gT_pA, gT_pI, gT_pR]; first | assumption | exact gtP H2 hp | exact gtS H2 hs | exact gt_2 H2) | fail) only [s127_0, s127_1, s127_4, s127_7, s127_8, s127_11, s127_14, s127_16, s127_19, s127_21, s127_23, s127_26, s127_28, s127_29, s127_30, s127_33, s127_34, s127_35, s127_37, s127_39, s127_42, s127_43, s127_46, s127_48, s127_49, s127_51, s127_54, s127_55, s127_58, s127_60, s127_61, s127_62, s127_64, s127_65, s127_69, s127_71, s127_74, s127_76, s127_77, s127_78, s127_80, s127_81, s127_82, s127_83, s127_86, s127_89, s127_91, s127_92, s127_94, s127_97, s127_98, s127_99, s127_101, s127_102, s127_103, s127_104, s127_106, s127_108, s127_111, s127_112, s127_113, s127_115, s127_116, s127_117, s127_118, s127_119, s127_120, s127_122, s127_123, s127_126, s127_128, s127_131, s127_134, s127_136, s127_139, s127_142, s127_143, s127_146, s127_148, s127_150, s127_151, s127_154, s127_157, s127_160, s127_162, aiS H2 hs, aj_45 H2, aq_56 H2, grS H2 hs, grS2 H2 hs, gr_2_12 H2, gr_2_6 H2, gtP H2 hp, gtS H2 hs, gt_2 H2, am127, isRf_ref, true_and, and_true, aPs_s, aPs_n, b01_0, b01_1, nI_clamp, ix_nI, inb_nI, lt_nI, eq_nI, nn_nI, eq0_nI, pk_mul, nI_add, lt_T, lt_F, if_true, if_false, true_and, and_true, neg1_nI, neg1_lt, neg1_neg, lt_neg1, eqN_F, eq_self,  hk, tS, tN, tA, tP, r21', c80', r1, r2, r2', c44', Option.isSome_none, Bool.not_false, Bool.not_true, Bool.true_and, Bool.false_and, Bool.and_true, Bool.and_false, Bool.or_true, Bool.or_false, Bool.true_or, Bool.false_or, Bool.true_eq_false, Bool.false_eq_true, if_true, if_false, Option.isSome_some, Option.isSome_none, Option.isNone_some, Option.isNone_none, zB_t, zB_f, nI1_0, nI0_0, ih2, g]
      | some b =>
        obtain ⟨hb12, ecb, -⟩ := bf_w hb
        rw [hb, ecb] at c44'
        rw [ecb] at r1
        have up : pI (pA h 45 (ldN P c a (gI h 45) k).1) 45 b (c (a + 2 * k + 1)) = pA h 45 (upd (ldN P c a (gI h 45) k).1 b (c (a + 2 * k + 1))) := pI_pA
        rcases Bool.eq_false_or_eq_true (plI (c (a + 2 * k + 1))) with g5 | g5
        · rw [g5] at c131'
          simp only [ldN, hb, g5, if_true] at ih2
          simp (disch := first | omega | assumption | exact gtP H2 hp | exact gtS H2 hs | exact gt_2 H2 | (simp only [gT_pA, gT_pI, gT_pR]; first | assumption | exact gtP H2 hp | exact gtS H2 hs | exact gt_2 H2) | fail) only [s127_0, s127_1, s127_4, s127_7, s127_8, s127_11, s127_14, s127_16, s127_19, s127_21, s127_23, s127_26, s127_28, s127_29, s127_30, s127_33, s127_34, s127_35, s127_37, s127_39, s127_42, s127_43, s127_46, s127_48, s127_49, s127_51, s127_54, s127_55, s127_58, s127_60, s127_61, s127_62, s127_64, s127_65, s127_69, s127_71, s127_74, s127_76, s127_77, s127_78, s127_80, s127_81, s127_82, s127_83, s127_86, s127_89, s127_91, s127_92, s127_94, s127_97, s127_98, s127_99, s127_101, s127_102, s127_103, s127_104, s127_106, s127_108, s127_111, s127_112, s127_113, s127_115, s127_116, s127_117, s127_118, s127_119, s127_120, s127_122, s127_123, s127_126, s127_128, s127_131, s127_134, s127_136, s127_139, s127_142, s127_143, s127_146, s127_148, s127_150, s127_151, s127_154, s127_157, s127_160, s127_162, aiS H2 hs, aj_45 H2, aq_56 H2, grS H2 hs, grS2 H2 hs, gr_2_12 H2, gr_2_6 H2, gtP H2 hp, gtS H2 hs, gt_2 H2, am127, isRf_ref, true_and, and_true, aPs_s, aPs_n, b01_0, b01_1, nI_clamp, ix_nI, inb_nI, lt_nI, eq_nI, nn_nI, eq0_nI, pk_mul, nI_add, lt_T, lt_F, if_true, if_false, true_and, and_true, neg1_nI, neg1_lt, neg1_neg, lt_neg1, eqN_F, eq_self,  hk, tS, tN, tA, tP, r21', c80', r1, r2, r2', c44', c131', Option.isSome_some, Bool.not_false, Bool.not_true, Bool.true_and, Bool.false_and, Bool.and_true, Bool.and_false, Bool.or_true, Bool.or_false, Bool.true_or, Bool.false_or, Bool.true_eq_false, Bool.false_eq_true, if_true, if_false, Option.isSome_some, Option.isSome_none, Option.isNone_some, Option.isNone_none, zB_t, zB_f, nI1_0, nI0_0, up, ih2, g]
        · rw [g5] at c131'
          simp only [ldN, hb, g5, if_false, Bool.false_eq_true] at ih2
          simp (disch := first | omega | assumption | exact gtP H2 hp | exact gtS H2 hs | exact gt_2 H2 | (simp only [gT_pA, gT_pI, gT_pR]; first | assumption | exact gtP H2 hp | exact gtS H2 hs | exact gt_2 H2) | fail) only [s127_0, s127_1, s127_4, s127_7, s127_8, s127_11, s127_14, s127_16, s127_19, s127_21, s127_23, s127_26, s127_28, s127_29, s127_30, s127_33, s127_34, s127_35, s127_37, s127_39, s127_42, s127_43, s127_46, s127_48, s127_49, s127_51, s127_54, s127_55, s127_58, s127_60, s127_61, s127_62, s127_64, s127_65, s127_69, s127_71, s127_74, s127_76, s127_77, s127_78, s127_80, s127_81, s127_82, s127_83, s127_86, s127_89, s127_91, s127_92, s127_94, s127_97, s127_98, s127_99, s127_101, s127_102, s127_103, s127_104, s127_106, s127_108, s127_111, s127_112, s127_113, s127_115, s127_116, s127_117, s127_118, s127_119, s127_120, s127_122, s127_123, s127_126, s127_128, s127_131, s127_134, s127_136, s127_139, s127_142, s127_143, s127_146, s127_148, s127_150, s127_151, s127_154, s127_157, s127_160, s127_162, aiS H2 hs, aj_45 H2, aq_56 H2, grS H2 hs, grS2 H2 hs, gr_2_12 H2, gr_2_6 H2, gtP H2 hp, gtS H2 hs, gt_2 H2, am127, isRf_ref, true_and, and_true, aPs_s, aPs_n, b01_0, b01_1, nI_clamp, ix_nI, inb_nI, lt_nI, eq_nI, nn_nI, eq0_nI, pk_mul, nI_add, lt_T, lt_F, if_true, if_false, true_and, and_true, neg1_nI, neg1_lt, neg1_neg, lt_neg1, eqN_F, eq_self,  hk, tS, tN, tA, tP, r21', c80', r1, r2, r2', c44', c131', Option.isSome_some, Bool.not_false, Bool.not_true, Bool.true_and, Bool.false_and, Bool.and_true, Bool.and_false, Bool.or_true, Bool.or_false, Bool.true_or, Bool.false_or, Bool.true_eq_false, Bool.false_eq_true, if_true, if_false, Option.isSome_some, Option.isSome_none, Option.isNone_some, Option.isNone_none, zB_t, zB_f, nI1_0, nI0_0, ih2, g]
    · rw [g] at c80'
      simp (disch := first | omega | assumption | exact gtS H2 hs | exact gt_2 H2 | (simp only [gT_pA, gT_pI, gT_pR]; first | assumption | exact gtS H2 hs | exact gt_2 H2) | fail) only [s127_0, s127_1, s127_4, s127_7, s127_8, s127_11, s127_14, s127_16, s127_19, s127_21, s127_23, s127_26, s127_28, s127_29, s127_30, s127_33, s127_34, s127_35, s127_37, s127_39, s127_42, s127_43, s127_46, s127_48, s127_49, s127_51, s127_54, s127_55, s127_58, s127_60, s127_61, s127_62, s127_64, s127_65, s127_69, s127_71, s127_74, s127_76, s127_77, s127_78, s127_80, s127_81, s127_82, s127_83, s127_86, s127_89, s127_91, s127_92, s127_94, s127_97, s127_98, s127_99, s127_101, s127_102, s127_103, s127_104, s127_106, s127_108, s127_111, s127_112, s127_113, s127_115, s127_116, s127_117, s127_118, s127_119, s127_120, s127_122, s127_123, s127_126, s127_128, s127_131, s127_134, s127_136, s127_139, s127_142, s127_143, s127_146, s127_148, s127_150, s127_151, s127_154, s127_157, s127_160, s127_162, aiS H2 hs, aj_45 H2, aq_56 H2, grS H2 hs, grS2 H2 hs, gr_2_12 H2, gr_2_6 H2, gtS H2 hs, gt_2 H2, am127, isRf_ref, true_and, and_true, aPs_s, aPs_n, b01_0, b01_1, nI_clamp, ix_nI, inb_nI, lt_nI, eq_nI, nn_nI, eq0_nI, pk_mul, nI_add, lt_T, lt_F, if_true, if_false, true_and, and_true, neg1_nI, neg1_lt, neg1_neg, lt_neg1, eqN_F, eq_self,  hk, tS, tN, tA, c80', Bool.not_false, Bool.not_true, Bool.true_and, Bool.false_and, Bool.and_true, Bool.and_false, Bool.or_true, Bool.or_false, Bool.true_or, Bool.false_or, Bool.true_eq_false, Bool.false_eq_true, if_true, if_false, Option.isSome_some, Option.isSome_none, Option.isNone_some, Option.isNone_none, zB_t, zB_f, nI1_0, nI0_0, g])
  have l0 := loop 0 (Nat.zero_le _) l8 l9 () ()
  simp only [ldN, pA_self, Nat.sub_zero] at l0
  exact l0
set_option maxHeartbeats 8000000 in
theorem p_lays (R : Rel h0 h) {k sort fr n : Int32} : Pr d h0 h 127 216 [.ref 2, .int k, .int sort, .int fr, .int n] [.ref 65, .int k, .int sort, .int fr, .int n] := by
  have R' := R
  obtain ⟨p, P, tl, r1, r2, r3, r4, r5, r6, r7, r8, r9, ra, rb⟩ := R
  have R0 := r1
  obtain ⟨-, -, H, HM, AB0⟩ := R0
  have R0 := r2
  obtain ⟨hp, r21, r22, hP, W, Tv, T, h29, hw, TMh⟩ := R0
  have V := W.1
  have s10 := V.s.1
  have C := TMh.1.1
  have f3 := TMh.2.2.1
  have t2 := TMh.2.2.2
  have hz9 : ∀ s, s < 4 → bn (gI h 95 s) 41 := fun s hs => (r9 s hs).2.2.2.1
  have hg5 : ∀ b, b < 12 → plI (gI h 89 b) = true := fun b hb => (r5 b hb).2
  have c129' : ∀ Q', aM (d + 19) 129 [.int k] h Q' = Q' (some (.int (zB (plc k 4).isSome))) h := fun Q' => c129
  have c130' : ∀ Q', aM (d + 19) 130 [.int sort] h Q' = Q' (some (.int (zB (plc sort 3).isSome))) h := fun Q' => c130
  have ns : ¬ (none : Option Nat).isSome = true := by decide
  have bad : (plc k 4 = none ∨ plc sort 3 = none ∨ plc n 21 = none) → ∀ Q2 : Option Value → abH → Prop, (∀ h2, Rel h0 h2 → Q2 (some (.int (-2))) h2) → aM (d + 20) 216 [.ref 65, .int k, .int sort, .int fr, .int n] h Q2 := by
    intro q Q2 hQ2
    refine t216 HM hP hz9 hg5 (fun _ => hQ2 h R') ?_ ?_ ?_
    · intro s _ a b c
      rcases q with q | q | q
      · rw [q] at a; cases a
      · rw [q] at b; exact (ns b).elim
      · rw [q] at c; exact (ns c).elim
    · intro s _ a b c
      rcases q with q | q | q
      · rw [q] at a; cases a
      · rw [q] at b; exact (ns b).elim
      · rw [q] at c; exact (ns c).elim
    · intro s m _ _ a b _ _ c
      rcases q with q | q | q
      · rw [q] at a; cases a
      · rw [q] at b; exact (ns b).elim
      · rw [q] at c; cases c
  rcases plc_or k 4 (by omega) with ⟨s, hs, rfl, e⟩ | e
  · rw [e] at c129'
    rcases plc_or sort 3 (by omega) with ⟨so, hso, rfl, e2⟩ | e2
    · rw [e2] at c130'
      rcases plc_cases n 21 (by omega) with ⟨m, hm, rfl, e3⟩ | ⟨e3, f1, f2⟩ | ⟨e3, f1, f2, f3, f4⟩
      · obtain ⟨z0, z1, zs, zz, zk⟩ := r9 s hs
        obtain ⟨z, hz, ez⟩ := bn_of zz
        have l1 : ¬ nI 20 < nI m := by rw [lt_nI (by omega) (by omega)]; omega
        have sS : ∀ s', plc (nI s) 4 = some s' → s' = s := fun s' q => by rw [e] at q; cases q; rfl
        have no1 : ¬ (plc (nI s) 4 = none ∨ plc (nI so) 3 = none ∨ plc (nI m) 21 = none) := by
          rintro (q | q | q)
          · rw [e] at q; cases q
          · rw [e2] at q; cases q
          · rw [e3] at q; cases q
        by_cases h1 : gI h 94 s = -1
        · refine Pr_t (h1 := h) (v := -11) (fun Q => ?_) (fun Q2 hQ2 => t216 HM hP hz9 hg5 (fun q => (no1 q).elim) (fun _ _ _ _ _ _ => hQ2 h R') ?_ ?_)
          · simp (disch := first | omega | assumption | exact gtS H hs | exact gt_2 H | (simp only [gT_pA, gT_pI, gT_pR]; first | assumption | exact gtS H hs | exact gt_2 H) | fail) only [s127_0, s127_1, s127_4, s127_7, s127_8, s127_11, s127_14, s127_16, s127_19, s127_21, s127_23, s127_26, s127_28, s127_29, s127_30, s127_33, s127_34, s127_35, s127_37, s127_39, s127_42, s127_43, s127_46, s127_48, s127_49, s127_51, s127_54, s127_55, s127_58, s127_60, s127_61, s127_62, s127_64, s127_65, s127_69, s127_71, s127_74, s127_76, s127_77, s127_78, s127_80, s127_81, s127_82, s127_83, s127_86, s127_89, s127_91, s127_92, s127_94, s127_97, s127_98, s127_99, s127_101, s127_102, s127_103, s127_104, s127_106, s127_108, s127_111, s127_112, s127_113, s127_115, s127_116, s127_117, s127_118, s127_119, s127_120, s127_122, s127_123, s127_126, s127_128, s127_131, s127_134, s127_136, s127_139, s127_142, s127_143, s127_146, s127_148, s127_150, s127_151, s127_154, s127_157, s127_160, s127_162, aiS H hs, aj_45 H, aq_56 H, grS H hs, grS2 H hs, gr_2_12 H, gr_2_6 H, gtS H hs, gt_2 H, am127, isRf_ref, true_and, and_true, aPs_s, aPs_n, b01_0, b01_1, nI_clamp, ix_nI, inb_nI, lt_nI, eq_nI, nn_nI, eq0_nI, pk_mul, nI_add, lt_T, lt_F, if_true, if_false, true_and, and_true, neg1_nI, neg1_lt, neg1_neg, lt_neg1, eqN_F, eq_self,  c129', c130', Option.isSome_some, Bool.not_false, Bool.not_true, Bool.true_and, Bool.false_and, Bool.and_true, Bool.and_false, Bool.or_true, Bool.or_false, Bool.true_or, Bool.false_or, Bool.true_eq_false, Bool.false_eq_true, if_true, if_false, Option.isSome_some, Option.isSome_none, Option.isNone_some, Option.isNone_none, zB_t, zB_f, nI1_0, nI0_0, nn_nI, l1, z0, h1]
          · intro s' _ q _ _ g _
            rw [sS s' q] at g
            exact (g h1).elim
          · intro s' _ _ _ q _ _ _ _ g _
            rw [sS s' q] at g
            exact (g h1).elim
        · by_cases h2 : gI h 94 s = nI so
          · have hz40 : z ≤ 40 := by omega
            have LC := fun (Q : Option Value → abH → Prop) (l8 l9 : Value) => c127_67 (d := d + 17) (Q := Q) H hp r21 W C hs (z1.trans ez) hz40 (show m ≤ 20 by omega) (c := cRow h s) zk (fr := fr) (l1 := .int (nI s)) (l2 := .int (nI so)) (l8 := l8) (l9 := l9)
            have fin : ∀ G1 G2 : Nat → Int32, (∀ b, b < 12 → G1 b = G2 b ∧ plI (G2 b) = true) → Rel h0 (pA (pA h 45 G1) 89 G2) := by
              intro G1 G2 hG
              have F : Fr (fun o _ => o = 45 ∨ o = 89) dT h (pA (pA h 45 G1) 89 G2) := Fr_trans (Fr_pA (fun _ => Or.inl rfl)) (Fr_pA (fun _ => Or.inr rfl))
              have r5' : R5 (pA (pA h 45 G1) 89 G2) := fun b hb => by
                rw [gI_ne (show (45 : Nat) ≠ 89 by omega), gI_eq, gI_eq]
                exact hG b hb
              exact ⟨p, P, tl, R1_fr (Fr_pT F) (by intro o k; simp only [D1]; omega) r1, R2_fr F (by intro o k; simp only [D2]; omega) r2, R3_fr F (by intro o k; simp only [D3]; omega) r3, R4_fr F (by intro o k; simp only [D4]; omega) r4, r5', R6_fr F (by intro o k; simp only [D6]; omega) r6, R7_fr F (by intro o k; simp only [D7]; omega) r7, R8_fr F (by intro o k; simp only [D8]; omega) r8, R9_fr F (by intro o k; simp only [D9]; omega) r9, RA_fr F (by intro o k; simp only [DA]; omega) ra, RB_fr F (by intro o k; simp only [DB]; omega) rb⟩
            have cg : ∀ k, (∀ b, b < 12 → (ldN P (cRow h s) fr.toInt.toNat (gI h 45) k).1 b = (ldN P (cRow h s) fr.toInt.toNat (gI h 89) k).1 b) ∧ (ldN P (cRow h s) fr.toInt.toNat (gI h 45) k).2 = (ldN P (cRow h s) fr.toInt.toNat (gI h 89) k).2 := fun k => ldN_cg (fun b hb => (r5 b hb).1)
            have ref : ∀ (G1 : Nat → Int32) (Q2 : Option Value → abH → Prop), (match fst1 (fun k => !ldG (nI z) fr k) m 0 with
                | some k => Q2 (some (.int (-12))) (pA (pA h 45 G1) 89 (ldN P (cRow h s) fr.toInt.toNat (gI h 89) k).1)
                | none => Q2 (some (.int (nI (ldN P (cRow h s) fr.toInt.toNat (gI h 89) m).2))) (pA (pA h 45 G1) 89 (ldN P (cRow h s) fr.toInt.toNat (gI h 89) m).1)) → aM (d + 20) 216 [.ref 65, .int (nI s), .int (nI so), .int fr, .int (nI m)] (pA h 45 G1) Q2 := by
              intro G1 Q2 hQ2
              have M1 : KM (pA h 45 G1) := HM
              have P1 : pv (pA h 45 G1) = P := (pv_pA (by omega)).trans hP
              have x94 : gI (pA h 45 G1) 94 = gI h 94 := by rw [gI_ne (by omega)]
              have x95 : gI (pA h 45 G1) 95 = gI h 95 := by rw [gI_ne (by omega)]
              have x89 : gI (pA h 45 G1) 89 = gI h 89 := by rw [gI_ne (by omega)]
              have xc : cRow (pA h 45 G1) s = cRow h s := by unfold cRow; rw [gI_ne (by omega)]
              refine t216 M1 P1 (fun s hs => by rw [x95]; exact hz9 s hs) (fun b hb => by rw [x89]; exact hg5 b hb) (fun q => (no1 q).elim) ?_ ?_ ?_
              · intro s' _ q _ _ g
                rw [sS s' q, x94] at g
                exact (h1 g).elim
              · intro s' _ q _ _ _ g
                rw [sS s' q, x94] at g
                exact (g h2).elim
              · intro s' m' _ _ q _ _ _ e3' _ _
                have := sS s' q
                subst this
                rw [e3] at e3'
                cases e3'
                rw [x95, x89, xc, ez]
                exact hQ2
            cases hq : fst1 (fun k => !ldG (nI z) fr k) m 0 with
            | none =>
              rw [hq] at ref LC
              refine Pr_t (h1 := pA h 45 (ldN P (cRow h s) fr.toInt.toNat (gI h 45) m).1) (v := nI (ldN P (cRow h s) fr.toInt.toNat (gI h 89) m).2) (fun Q => ?_) (fun Q2 hQ2 => ref _ Q2 (hQ2 _ (fin _ _ (fun b hb => ⟨(cg m).1 b hb, (ldN_ok hg5).1 b hb⟩))))
              have LC2 := LC Q (.retAddr 0) (.retAddr 0)
              rw [(cg m).2] at LC2
              simp (disch := first | omega | assumption | exact gtS H hs | exact gt_2 H | (simp only [gT_pA, gT_pI, gT_pR]; first | assumption | exact gtS H hs | exact gt_2 H) | fail) only [s127_0, s127_1, s127_4, s127_7, s127_8, s127_11, s127_14, s127_16, s127_19, s127_21, s127_23, s127_26, s127_28, s127_29, s127_30, s127_33, s127_34, s127_35, s127_37, s127_39, s127_42, s127_43, s127_46, s127_48, s127_49, s127_51, s127_54, s127_55, s127_58, s127_60, s127_61, s127_62, s127_64, s127_65, s127_69, s127_71, s127_74, s127_76, s127_77, s127_78, s127_80, s127_81, s127_82, s127_83, s127_86, s127_89, s127_91, s127_92, s127_94, s127_97, s127_98, s127_99, s127_101, s127_102, s127_103, s127_104, s127_106, s127_108, s127_111, s127_112, s127_113, s127_115, s127_116, s127_117, s127_118, s127_119, s127_120, s127_122, s127_123, s127_126, s127_128, s127_131, s127_134, s127_136, s127_139, s127_142, s127_143, s127_146, s127_148, s127_150, s127_151, s127_154, s127_157, s127_160, s127_162, aiS H hs, aj_45 H, aq_56 H, grS H hs, grS2 H hs, gr_2_12 H, gr_2_6 H, gtS H hs, gt_2 H, am127, isRf_ref, true_and, and_true, aPs_s, aPs_n, b01_0, b01_1, nI_clamp, ix_nI, inb_nI, lt_nI, eq_nI, nn_nI, eq0_nI, pk_mul, nI_add, lt_T, lt_F, if_true, if_false, true_and, and_true, neg1_nI, neg1_lt, neg1_neg, lt_neg1, eqN_F, eq_self,  c129', c130', Option.isSome_some, Bool.not_false, Bool.not_true, Bool.true_and, Bool.false_and, Bool.and_true, Bool.and_false, Bool.or_true, Bool.or_false, Bool.true_or, Bool.false_or, Bool.true_eq_false, Bool.false_eq_true, if_true, if_false, Option.isSome_some, Option.isSome_none, Option.isNone_some, Option.isNone_none, zB_t, zB_f, nI1_0, nI0_0, nn_nI, l1, z0, h1, h2]
              exact LC2
            | some k =>
              rw [hq] at ref LC
              refine Pr_t (h1 := pA h 45 (ldN P (cRow h s) fr.toInt.toNat (gI h 45) k).1) (v := -12) (fun Q => ?_) (fun Q2 hQ2 => ref _ Q2 (hQ2 _ (fin _ _ (fun b hb => ⟨(cg k).1 b hb, (ldN_ok hg5).1 b hb⟩))))
              have LC2 := LC Q (.retAddr 0) (.retAddr 0)
              simp (disch := first | omega | assumption | exact gtS H hs | exact gt_2 H | (simp only [gT_pA, gT_pI, gT_pR]; first | assumption | exact gtS H hs | exact gt_2 H) | fail) only [s127_0, s127_1, s127_4, s127_7, s127_8, s127_11, s127_14, s127_16, s127_19, s127_21, s127_23, s127_26, s127_28, s127_29, s127_30, s127_33, s127_34, s127_35, s127_37, s127_39, s127_42, s127_43, s127_46, s127_48, s127_49, s127_51, s127_54, s127_55, s127_58, s127_60, s127_61, s127_62, s127_64, s127_65, s127_69, s127_71, s127_74, s127_76, s127_77, s127_78, s127_80, s127_81, s127_82, s127_83, s127_86, s127_89, s127_91, s127_92, s127_94, s127_97, s127_98, s127_99, s127_101, s127_102, s127_103, s127_104, s127_106, s127_108, s127_111, s127_112, s127_113, s127_115, s127_116, s127_117, s127_118, s127_119, s127_120, s127_122, s127_123, s127_126, s127_128, s127_131, s127_134, s127_136, s127_139, s127_142, s127_143, s127_146, s127_148, s127_150, s127_151, s127_154, s127_157, s127_160, s127_162, aiS H hs, aj_45 H, aq_56 H, grS H hs, grS2 H hs, gr_2_12 H, gr_2_6 H, gtS H hs, gt_2 H, am127, isRf_ref, true_and, and_true, aPs_s, aPs_n, b01_0, b01_1, nI_clamp, ix_nI, inb_nI, lt_nI, eq_nI, nn_nI, eq0_nI, pk_mul, nI_add, lt_T, lt_F, if_true, if_false, true_and, and_true, neg1_nI, neg1_lt, neg1_neg, lt_neg1, eqN_F, eq_self,  c129', c130', Option.isSome_some, Bool.not_false, Bool.not_true, Bool.true_and, Bool.false_and, Bool.and_true, Bool.and_false, Bool.or_true, Bool.or_false, Bool.true_or, Bool.false_or, Bool.true_eq_false, Bool.false_eq_true, if_true, if_false, Option.isSome_some, Option.isSome_none, Option.isNone_some, Option.isNone_none, zB_t, zB_f, nI1_0, nI0_0, nn_nI, l1, z0, h1, h2]
              exact LC2
          · refine Pr_t (h1 := h) (v := -13) (fun Q => ?_) (fun Q2 hQ2 => t216 HM hP hz9 hg5 (fun q => (no1 q).elim) ?_ (fun _ _ _ _ _ _ _ => hQ2 h R') ?_)
            · simp (disch := first | omega | assumption | exact gtS H hs | exact gt_2 H | (simp only [gT_pA, gT_pI, gT_pR]; first | assumption | exact gtS H hs | exact gt_2 H) | fail) only [s127_0, s127_1, s127_4, s127_7, s127_8, s127_11, s127_14, s127_16, s127_19, s127_21, s127_23, s127_26, s127_28, s127_29, s127_30, s127_33, s127_34, s127_35, s127_37, s127_39, s127_42, s127_43, s127_46, s127_48, s127_49, s127_51, s127_54, s127_55, s127_58, s127_60, s127_61, s127_62, s127_64, s127_65, s127_69, s127_71, s127_74, s127_76, s127_77, s127_78, s127_80, s127_81, s127_82, s127_83, s127_86, s127_89, s127_91, s127_92, s127_94, s127_97, s127_98, s127_99, s127_101, s127_102, s127_103, s127_104, s127_106, s127_108, s127_111, s127_112, s127_113, s127_115, s127_116, s127_117, s127_118, s127_119, s127_120, s127_122, s127_123, s127_126, s127_128, s127_131, s127_134, s127_136, s127_139, s127_142, s127_143, s127_146, s127_148, s127_150, s127_151, s127_154, s127_157, s127_160, s127_162, aiS H hs, aj_45 H, aq_56 H, grS H hs, grS2 H hs, gr_2_12 H, gr_2_6 H, gtS H hs, gt_2 H, am127, isRf_ref, true_and, and_true, aPs_s, aPs_n, b01_0, b01_1, nI_clamp, ix_nI, inb_nI, lt_nI, eq_nI, nn_nI, eq0_nI, pk_mul, nI_add, lt_T, lt_F, if_true, if_false, true_and, and_true, neg1_nI, neg1_lt, neg1_neg, lt_neg1, eqN_F, eq_self,  c129', c130', Option.isSome_some, Bool.not_false, Bool.not_true, Bool.true_and, Bool.false_and, Bool.and_true, Bool.and_false, Bool.or_true, Bool.or_false, Bool.true_or, Bool.false_or, Bool.true_eq_false, Bool.false_eq_true, if_true, if_false, Option.isSome_some, Option.isSome_none, Option.isNone_some, Option.isNone_none, zB_t, zB_f, nI1_0, nI0_0, nn_nI, l1, z0, h1, h2]
            · intro s' _ q _ _ g
              rw [sS s' q] at g
              exact (h1 g).elim
            · intro s' _ _ _ q _ _ _ _ _ g
              rw [sS s' q] at g
              exact (h2 g).elim
      · refine Pr_t (h1 := h) (v := -2) (fun Q => ?_) (bad (Or.inr (Or.inr e3)))
        simp (disch := first | omega | assumption | exact gtS H hs | exact gt_2 H | (simp only [gT_pA, gT_pI, gT_pR]; first | assumption | exact gtS H hs | exact gt_2 H) | fail) only [s127_0, s127_1, s127_4, s127_7, s127_8, s127_11, s127_14, s127_16, s127_19, s127_21, s127_23, s127_26, s127_28, s127_29, s127_30, s127_33, s127_34, s127_35, s127_37, s127_39, s127_42, s127_43, s127_46, s127_48, s127_49, s127_51, s127_54, s127_55, s127_58, s127_60, s127_61, s127_62, s127_64, s127_65, s127_69, s127_71, s127_74, s127_76, s127_77, s127_78, s127_80, s127_81, s127_82, s127_83, s127_86, s127_89, s127_91, s127_92, s127_94, s127_97, s127_98, s127_99, s127_101, s127_102, s127_103, s127_104, s127_106, s127_108, s127_111, s127_112, s127_113, s127_115, s127_116, s127_117, s127_118, s127_119, s127_120, s127_122, s127_123, s127_126, s127_128, s127_131, s127_134, s127_136, s127_139, s127_142, s127_143, s127_146, s127_148, s127_150, s127_151, s127_154, s127_157, s127_160, s127_162, aiS H hs, aj_45 H, aq_56 H, grS H hs, grS2 H hs, gr_2_12 H, gr_2_6 H, gtS H hs, gt_2 H, am127, isRf_ref, true_and, and_true, aPs_s, aPs_n, b01_0, b01_1, nI_clamp, ix_nI, inb_nI, lt_nI, eq_nI, nn_nI, eq0_nI, pk_mul, nI_add, lt_T, lt_F, if_true, if_false, true_and, and_true, neg1_nI, neg1_lt, neg1_neg, lt_neg1, eqN_F, eq_self,  c129', c130', Option.isSome_some, Bool.not_false, Bool.not_true, Bool.true_and, Bool.false_and, Bool.and_true, Bool.and_false, Bool.or_true, Bool.or_false, Bool.true_or, Bool.false_or, Bool.true_eq_false, Bool.false_eq_true, if_true, if_false, Option.isSome_some, Option.isSome_none, Option.isNone_some, Option.isNone_none, zB_t, zB_f, nI1_0, nI0_0, f1]
      · have : nI 21 - nI 1 = nI 20 := by decide
        rw [this] at f4
        refine Pr_t (h1 := h) (v := -2) (fun Q => ?_) (bad (Or.inr (Or.inr e3)))
        simp (disch := first | omega | assumption | exact gtS H hs | exact gt_2 H | (simp only [gT_pA, gT_pI, gT_pR]; first | assumption | exact gtS H hs | exact gt_2 H) | fail) only [s127_0, s127_1, s127_4, s127_7, s127_8, s127_11, s127_14, s127_16, s127_19, s127_21, s127_23, s127_26, s127_28, s127_29, s127_30, s127_33, s127_34, s127_35, s127_37, s127_39, s127_42, s127_43, s127_46, s127_48, s127_49, s127_51, s127_54, s127_55, s127_58, s127_60, s127_61, s127_62, s127_64, s127_65, s127_69, s127_71, s127_74, s127_76, s127_77, s127_78, s127_80, s127_81, s127_82, s127_83, s127_86, s127_89, s127_91, s127_92, s127_94, s127_97, s127_98, s127_99, s127_101, s127_102, s127_103, s127_104, s127_106, s127_108, s127_111, s127_112, s127_113, s127_115, s127_116, s127_117, s127_118, s127_119, s127_120, s127_122, s127_123, s127_126, s127_128, s127_131, s127_134, s127_136, s127_139, s127_142, s127_143, s127_146, s127_148, s127_150, s127_151, s127_154, s127_157, s127_160, s127_162, aiS H hs, aj_45 H, aq_56 H, grS H hs, grS2 H hs, gr_2_12 H, gr_2_6 H, gtS H hs, gt_2 H, am127, isRf_ref, true_and, and_true, aPs_s, aPs_n, b01_0, b01_1, nI_clamp, ix_nI, inb_nI, lt_nI, eq_nI, nn_nI, eq0_nI, pk_mul, nI_add, lt_T, lt_F, if_true, if_false, true_and, and_true, neg1_nI, neg1_lt, neg1_neg, lt_neg1, eqN_F, eq_self,  c129', c130', Option.isSome_some, Bool.not_false, Bool.not_true, Bool.true_and, Bool.false_and, Bool.and_true, Bool.and_false, Bool.or_true, Bool.or_false, Bool.true_or, Bool.false_or, Bool.true_eq_false, Bool.false_eq_true, if_true, if_false, Option.isSome_some, Option.isSome_none, Option.isNone_some, Option.isNone_none, zB_t, zB_f, nI1_0, nI0_0, f1, f4]
    · rw [e2] at c130'
      refine Pr_t (h1 := h) (v := -2) (fun Q => ?_) (bad (Or.inr (Or.inl e2)))
      simp (disch := first | omega | assumption | exact gtS H hs | exact gt_2 H | (simp only [gT_pA, gT_pI, gT_pR]; first | assumption | exact gtS H hs | exact gt_2 H) | fail) only [s127_0, s127_1, s127_4, s127_7, s127_8, s127_11, s127_14, s127_16, s127_19, s127_21, s127_23, s127_26, s127_28, s127_29, s127_30, s127_33, s127_34, s127_35, s127_37, s127_39, s127_42, s127_43, s127_46, s127_48, s127_49, s127_51, s127_54, s127_55, s127_58, s127_60, s127_61, s127_62, s127_64, s127_65, s127_69, s127_71, s127_74, s127_76, s127_77, s127_78, s127_80, s127_81, s127_82, s127_83, s127_86, s127_89, s127_91, s127_92, s127_94, s127_97, s127_98, s127_99, s127_101, s127_102, s127_103, s127_104, s127_106, s127_108, s127_111, s127_112, s127_113, s127_115, s127_116, s127_117, s127_118, s127_119, s127_120, s127_122, s127_123, s127_126, s127_128, s127_131, s127_134, s127_136, s127_139, s127_142, s127_143, s127_146, s127_148, s127_150, s127_151, s127_154, s127_157, s127_160, s127_162, aiS H hs, aj_45 H, aq_56 H, grS H hs, grS2 H hs, gr_2_12 H, gr_2_6 H, gtS H hs, gt_2 H, am127, isRf_ref, true_and, and_true, aPs_s, aPs_n, b01_0, b01_1, nI_clamp, ix_nI, inb_nI, lt_nI, eq_nI, nn_nI, eq0_nI, pk_mul, nI_add, lt_T, lt_F, if_true, if_false, true_and, and_true, neg1_nI, neg1_lt, neg1_neg, lt_neg1, eqN_F, eq_self,  c129', c130', Option.isSome_some, Option.isSome_none, Bool.not_false, Bool.not_true, Bool.true_and, Bool.false_and, Bool.and_true, Bool.and_false, Bool.or_true, Bool.or_false, Bool.true_or, Bool.false_or, Bool.true_eq_false, Bool.false_eq_true, if_true, if_false, Option.isSome_some, Option.isSome_none, Option.isNone_some, Option.isNone_none, zB_t, zB_f, nI1_0, nI0_0]
  · rw [e] at c129'
    have hs : 0 < 4 := by omega
    refine Pr_t (h1 := h) (v := -2) (fun Q => ?_) (bad (Or.inl e))
    simp (disch := first | omega | assumption | exact gtS H hs | exact gt_2 H | (simp only [gT_pA, gT_pI, gT_pR]; first | assumption | exact gtS H hs | exact gt_2 H) | fail) only [s127_0, s127_1, s127_4, s127_7, s127_8, s127_11, s127_14, s127_16, s127_19, s127_21, s127_23, s127_26, s127_28, s127_29, s127_30, s127_33, s127_34, s127_35, s127_37, s127_39, s127_42, s127_43, s127_46, s127_48, s127_49, s127_51, s127_54, s127_55, s127_58, s127_60, s127_61, s127_62, s127_64, s127_65, s127_69, s127_71, s127_74, s127_76, s127_77, s127_78, s127_80, s127_81, s127_82, s127_83, s127_86, s127_89, s127_91, s127_92, s127_94, s127_97, s127_98, s127_99, s127_101, s127_102, s127_103, s127_104, s127_106, s127_108, s127_111, s127_112, s127_113, s127_115, s127_116, s127_117, s127_118, s127_119, s127_120, s127_122, s127_123, s127_126, s127_128, s127_131, s127_134, s127_136, s127_139, s127_142, s127_143, s127_146, s127_148, s127_150, s127_151, s127_154, s127_157, s127_160, s127_162, aiS H hs, aj_45 H, aq_56 H, grS H hs, grS2 H hs, gr_2_12 H, gr_2_6 H, gtS H hs, gt_2 H, am127, isRf_ref, true_and, and_true, aPs_s, aPs_n, b01_0, b01_1, nI_clamp, ix_nI, inb_nI, lt_nI, eq_nI, nn_nI, eq0_nI, pk_mul, nI_add, lt_T, lt_F, if_true, if_false, true_and, and_true, neg1_nI, neg1_lt, neg1_neg, lt_neg1, eqN_F, eq_self,  c129', Option.isSome_none, Bool.not_false, Bool.not_true, Bool.true_and, Bool.false_and, Bool.and_true, Bool.and_false, Bool.or_true, Bool.or_false, Bool.true_or, Bool.false_or, Bool.true_eq_false, Bool.false_eq_true, if_true, if_false, Option.isSome_some, Option.isSome_none, Option.isNone_some, Option.isNone_none, zB_t, zB_f, nI1_0, nI0_0]
set_option maxHeartbeats 8000000 in
theorem p_feed (R : Rel h0 h) {w : Int64} {k : Int32} : Pr d h0 h 95 140 [.ref 2, .long w, .int k] [.ref 65, .long w, .int k] := by
  have R' := R
  obtain ⟨p, P, tl, r1, r2, r3, r4, r5, r6, r7, r8, r9, ra, rb⟩ := R
  have R0 := r1
  obtain ⟨-, -, H, HM, AB0⟩ := R0
  have R0 := r2
  obtain ⟨hp, r21, r22, hP, W, Tv, T, h29, hw, TMh⟩ := R0
  have V := W.1
  have s10 := V.s.1
  have C := TMh.1.1
  have f3 := TMh.2.2.1
  have t2 := TMh.2.2.2
  obtain ⟨c, T, ⟨a1, a2, a3⟩, ⟨b1, b2, b3⟩⟩ := rb
  have rb : RB h := ⟨c, T, ⟨a1, a2, a3⟩, ⟨b1, b2, b3⟩⟩
  rcases r1_cases k 8 (by decide) with ⟨n, n1, n2, rfl, e⟩ | e
  · have l1 : ¬ nI n < nI 1 := by rw [lt_nI (by omega) (by omega)]; omega
    have l2 : ¬ nI 8 < nI n := by rw [lt_nI (by omega) (by omega)]; omega
    have nn : ∀ n', n' ≤ 8 → nI n = nI n' → n' = n := fun n' hn' q => by
      have := (nI_eq (show n < 2 ^ 31 by omega) (show n' < 2 ^ 31 by omega)).mp q
      omega
    by_cases h1 : 240 < T + n
    · refine Pr_t (h1 := h) (v := -4) (fun Q => ?_) (fun Q2 hQ2 => t140 HM b1 b2 (fun q => by rw [e] at q; cases q) (fun _ _ _ _ _ => hQ2 h R') (fun n' _ q1 q2 q3 => by have := nn n' q1 q2; omega))
      simp (disch := first | omega | assumption | exact gt_2 H | exact gt_3 H | (simp only [gT_pA, gT_pI, gT_pR]; first | assumption | exact gt_2 H | exact gt_3 H) | fail) only [s95_0, s95_1, s95_2, s95_5, s95_6, s95_8, s95_11, s95_13, s95_14, s95_15, s95_18, s95_21, s95_22, s95_23, s95_26, s95_29, s95_31, s95_32, s95_33, s95_36, s95_37, s95_38, s95_41, s95_42, s95_45, s95_48, gr_2_0 H, gt_2 H, gt_3 H, am95, isRf_ref, true_and, and_true, aPs_s, aPs_n, b01_0, b01_1, nI_clamp, ix_nI, inb_nI, lt_nI, eq_nI, nn_nI, eq0_nI, pk_mul, nI_add, lt_T, lt_F, if_true, if_false, true_and, and_true, neg1_nI, neg1_lt, neg1_neg, lt_neg1, eqN_F, eq_self,  l1, l2, a1, h1]
    · have c56' : ∀ Q', aM (d + 19) 56 [.ref 3, .long w, .int (nI n)] h Q' = Q' none (apH h T w n n) := fun Q' => c56 H a1 (by omega) n2 n1
      have H1 : KC (apH h T w n n) := H
      have M1 : KM (apH h T w n n) := HM
      have x3 : gI (apH h T w n n) 3 1 = nI (T + n) := by unfold apH; rw [gI_eq, upd_eq]
      have x1 : ∀ o k, o ≠ 3 → o ≠ 4 → gI (apH h T w n n) o k = gI h o k := fun o k q1 q2 => by unfold apH; rw [gI_ne q1, gI_ne q2]
      have F : Fr (fun o k => (o = 3 ∧ k = 1) ∨ o = 4 ∨ (o = 65 ∧ k = 1) ∨ o = 66) dT h (fdH (apH h T w n n) T w n n) := by
        have e1 : apH h T w n n = pI (pA h 4 (fdX (gI h 4) T w n n)) 3 1 (nI (T + n)) := by
          unfold apH
          rw [pI_def, gI_ne (by omega)]
        have e2 : fdH (apH h T w n n) T w n n = pI (pA (apH h T w n n) 66 (fdX (gI (apH h T w n n) 66) T w n n)) 65 1 (nI (T + n)) := by
          unfold fdH
          rw [pI_def, gI_ne (by omega)]
        rw [e2, e1]
        refine Fr_trans (Fr_trans (Fr_trans (Fr_pA (fun k => ?_)) (Fr_pI ?_)) (Fr_pA (fun k => ?_))) (Fr_pI ?_) <;> omega
      have y66 : ∀ j, gI (fdH (apH h T w n n) T w n n) 66 j = fdX (gI h 66) T w n n j := by
        intro j
        unfold fdH
        rw [gI_ne (by omega), gI_eq]
        congr 1
      have y4 : ∀ j, gI (fdH (apH h T w n n) T w n n) 4 j = fdX (gI h 4) T w n n j := by
        intro j
        unfold fdH
        rw [gI_ne (by omega), gI_ne (by omega)]
        unfold apH
        rw [gI_ne (by omega), gI_eq]
      have y3 : gI (fdH (apH h T w n n) T w n n) 3 1 = nI (T + n) := by
        unfold fdH
        rw [gI_ne (by omega), gI_ne (by omega)]
        exact x3
      have y65 : gI (fdH (apH h T w n n) T w n n) 65 1 = nI (T + n) := by
        unfold fdH
        rw [gI_eq, upd_eq]
      have rb' : RB (fdH (apH h T w n n) T w n n) := by
        refine ⟨fun j => if j < T then c j else ix (byt w (n - 1 - (j - T))), T + n, ⟨y3, by omega, fun j hj => ?_⟩, ⟨y65, by omega, fun j hj => ?_⟩⟩
        · rw [y4]
          unfold fdX
          by_cases hjT : j < T
          · rw [if_neg (by omega)]
            simp only [if_pos hjT]
            exact a3 j hjT
          · rw [if_pos (by omega)]
            simp only [if_neg hjT]
            obtain ⟨x, hx, ex⟩ := byt_lt (w := w) (i := n - 1 - (j - T)) (by omega)
            rw [ex, ix_nI (by omega)]
            exact ⟨rfl, hx⟩
        · rw [y66]
          unfold fdX
          by_cases hjT : j < T
          · rw [if_neg (by omega)]
            simp only [if_pos hjT]
            exact b3 j hjT
          · rw [if_pos (by omega)]
            simp only [if_neg hjT]
            obtain ⟨x, hx, ex⟩ := byt_lt (w := w) (i := n - 1 - (j - T)) (by omega)
            rw [ex, ix_nI (by omega)]
            exact ⟨rfl, hx⟩
      refine Pr_t (h1 := apH h T w n n) (v := nI (T + n)) (fun Q => ?_) (fun Q2 hQ2 => t140 M1 (T := T) ((x1 65 1 (by omega) (by omega)).trans b1) b2 (fun q => by rw [e] at q; cases q) (fun n' _ q1 q2 q3 => by have := nn n' q1 q2; omega) (fun n' _ q1 q2 _ => by
        have := nn n' q1 q2
        subst this
        exact hQ2 _ ⟨p, P, tl, R1_fr (Fr_pT F) (by intro o k; simp only [D1]; omega) r1, R2_fr F (by intro o k; simp only [D2]; omega) r2, R3_fr F (by intro o k; simp only [D3]; omega) r3, R4_fr F (by intro o k; simp only [D4]; omega) r4, R5_fr F (by intro o k; simp only [D5]; omega) r5, R6_fr F (by intro o k; simp only [D6]; omega) r6, R7_fr F (by intro o k; simp only [D7]; omega) r7, R8_fr F (by intro o k; simp only [D8]; omega) r8, R9_fr F (by intro o k; simp only [D9]; omega) r9, RA_fr F (by intro o k; simp only [DA]; omega) ra, rb'⟩))
      have t2a := gt_2 H1
      have q2 := gr_2_0 H1
      have t3a := gt_3 H1
      simp (disch := first | omega | assumption | exact gt_2 H | exact gt_3 H | (simp only [gT_pA, gT_pI, gT_pR]; first | assumption | exact gt_2 H | exact gt_3 H) | fail) only [s95_0, s95_1, s95_2, s95_5, s95_6, s95_8, s95_11, s95_13, s95_14, s95_15, s95_18, s95_21, s95_22, s95_23, s95_26, s95_29, s95_31, s95_32, s95_33, s95_36, s95_37, s95_38, s95_41, s95_42, s95_45, s95_48, gr_2_0 H, gt_2 H, gt_3 H, am95, isRf_ref, true_and, and_true, aPs_s, aPs_n, b01_0, b01_1, nI_clamp, ix_nI, inb_nI, lt_nI, eq_nI, nn_nI, eq0_nI, pk_mul, nI_add, lt_T, lt_F, if_true, if_false, true_and, and_true, neg1_nI, neg1_lt, neg1_neg, lt_neg1, eqN_F, eq_self,  l1, l2, a1, h1, c56', t2a, q2, t3a, x3]
  · have e' := of_decide_eq_false e
    have no : ∀ n, 0 < n → n ≤ 8 → k = nI n → False := by
      intro n n1 n2 q
      subst q
      apply e'
      rw [lt_nI (by omega) (by omega), lt_nI (by omega) (by omega)]
      omega
    have bad : ∀ Q2 : Option Value → abH → Prop, (∀ h2, Rel h0 h2 → Q2 (some (.int (-2))) h2) → aM (d + 20) 140 [.ref 65, .long w, .int k] h Q2 := fun Q2 hQ2 => t140 HM b1 b2 (fun _ => hQ2 h R') (fun n n1 n2 q => (no n n1 n2 q).elim) (fun n n1 n2 q => (no n n1 n2 q).elim)
    by_cases g1 : k < nI 1
    · refine Pr_t (h1 := h) (v := -2) (fun Q => ?_) bad
      simp (disch := first | omega | assumption | exact gt_2 H | exact gt_3 H | (simp only [gT_pA, gT_pI, gT_pR]; first | assumption | exact gt_2 H | exact gt_3 H) | fail) only [s95_0, s95_1, s95_2, s95_5, s95_6, s95_8, s95_11, s95_13, s95_14, s95_15, s95_18, s95_21, s95_22, s95_23, s95_26, s95_29, s95_31, s95_32, s95_33, s95_36, s95_37, s95_38, s95_41, s95_42, s95_45, s95_48, gr_2_0 H, gt_2 H, gt_3 H, am95, isRf_ref, true_and, and_true, aPs_s, aPs_n, b01_0, b01_1, nI_clamp, ix_nI, inb_nI, lt_nI, eq_nI, nn_nI, eq0_nI, pk_mul, nI_add, lt_T, lt_F, if_true, if_false, true_and, and_true, neg1_nI, neg1_lt, neg1_neg, lt_neg1, eqN_F, eq_self,  g1]
    · have g2 : nI 8 < k := by
        by_cases g : nI 8 < k
        · exact g
        · exact (e' ⟨g1, g⟩).elim
      refine Pr_t (h1 := h) (v := -2) (fun Q => ?_) bad
      simp (disch := first | omega | assumption | exact gt_2 H | exact gt_3 H | (simp only [gT_pA, gT_pI, gT_pR]; first | assumption | exact gt_2 H | exact gt_3 H) | fail) only [s95_0, s95_1, s95_2, s95_5, s95_6, s95_8, s95_11, s95_13, s95_14, s95_15, s95_18, s95_21, s95_22, s95_23, s95_26, s95_29, s95_31, s95_32, s95_33, s95_36, s95_37, s95_38, s95_41, s95_42, s95_45, s95_48, gr_2_0 H, gt_2 H, gt_3 H, am95, isRf_ref, true_and, and_true, aPs_s, aPs_n, b01_0, b01_1, nI_clamp, ix_nI, inb_nI, lt_nI, eq_nI, nn_nI, eq0_nI, pk_mul, nI_add, lt_T, lt_F, if_true, if_false, true_and, and_true, neg1_nI, neg1_lt, neg1_neg, lt_neg1, eqN_F, eq_self,  g1, g2]
end R8
