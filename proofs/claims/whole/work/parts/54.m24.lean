/-! THE REFERENCE: sendOut, outs -/
theorem rt_cases (r : Int32) : (∃ j, 0 < j ∧ j < 100 ∧ r = nI j ∧ decide (¬ r < nI 1 ∧ ¬ nI 99 < r) = true) ∨ decide (¬ r < nI 1 ∧ ¬ nI 99 < r) = false := by
  by_cases h : ¬ r < nI 1 ∧ ¬ nI 99 < r
  · refine Or.inl ?_
    have h0 : ¬ r < 0 := by
      intro h0
      apply h.1
      rw [Int32.lt_iff_toInt_lt] at h0 ⊢
      have e0 : (0 : Int32).toInt = 0 := by decide
      rw [nI_toInt (by decide)]
      omega
    obtain ⟨e1, e2⟩ := nI_nonneg h0
    have h1 := h.1
    have h2 := h.2
    rw [e1, lt_nI e2 (by decide)] at h1
    rw [e1, lt_nI (by decide) e2] at h2
    exact ⟨r.toInt.toNat, by omega, by omega, e1, decide_eq_true h⟩
  · exact Or.inr (decide_eq_false h)
def rtB (r : Int32) : Bool := decide (¬ r < nI 1 ∧ ¬ nI 99 < r)
section M24
variable {d : Nat} {h : abH} {Q : Option Value → abH → Prop}
theorem c139p {k : Int32} {n m : Nat} (hm : m + 1 < 2 ^ 31) (hn : n = m + 1) : aM d 139 [.int k, .int (nI 0), .int (nI m)] h Q = Q (some (.int (zB (plc k n).isSome))) h := by
  subst hn
  rw [c139, in_plc hm]
set_option maxHeartbeats 4000000 in
theorem t193 (HM : KM h) {P : Nat → Nat → Int32} (hP : pv h = P) (V : okP P) {tl : Option (Nat → Nat)} (T : toH h P tl) (hz : ∀ s, s < 4 → bn (gI h 95 s) 41) {k room rate : Int32} (hQ1 : plc k 4 = none → Q (some (.int (-5))) h) (hQ2 : ∀ s, plc k 4 = some s → gI h 94 s = -1 → Q (some (.int (-11))) h) (hQ3 : ∀ s, plc k 4 = some s → gI h 94 s ≠ -1 → (brI P h k ≠ nI 0 ∨ plc room 100000 = none ∨ rtB rate = false) → Q (some (.int (-2))) h) (hQ4 : ∀ s n bb rm rt, s < 4 → k = nI s → plc k 4 = some s → gI h 94 s ≠ -1 → gI h 95 s = nI n → n ≤ 6 → shH h s n bb → brI P h k = nI 0 → room = nI rm → rm < 100000 → plc room 100000 = some rm → rate = nI rt → 0 < rt → rt < 100 → rtB rate = true → ∀ h2, Fm h h2 → (oRD P tl = none → Q (some (.int (-3))) h2) ∧ ∀ o, oRD P tl = some o → Q (some (.int (so6 (soN P o bb n rm rt (2 ^ n))))) (hO h2 (soN P o bb n rm rt (2 ^ n)))) : aM (d + 4) 193 [.ref 65, .int k, .int room, .int rate] h Q := by
  have c184' : ∀ Q', aM (d + 3) 184 [.ref 65, .int k] h Q' = Q' (some (.int (brI P h k))) h := fun Q' => c184 HM hP hz
  have i4 : ∀ Q', aM (d + 3) 139 [.int k, .int (nI 0), .int (nI 3)] h Q' = Q' (some (.int (zB (plc k 4).isSome))) h := fun Q' => c139p (by decide) rfl
  have ir : ∀ Q', aM (d + 3) 139 [.int room, .int (nI 0), .int 99999] h Q' = Q' (some (.int (zB (plc room 100000).isSome))) h := fun Q' => c139p (m := 99999) (by decide) rfl
  have it : ∀ Q', aM (d + 3) 139 [.int rate, .int (nI 1), .int (nI 99)] h Q' = Q' (some (.int (zB (rtB rate)))) h := fun Q' => c139
  cases e : plc k 4 with
  | none =>
    simp (disch := first | omega | assumption | exact gt_65 HM | fail) only [s193_0, s193_1, s193_2, s193_3, s193_6, s193_9, s193_11, s193_12, s193_13, s193_16, s193_17, s193_18, s193_19, s193_22, s193_24, s193_25, s193_26, s193_27, s193_30, s193_33, s193_34, s193_35, s193_38, s193_41, s193_44, s193_45, s193_46, s193_48, s193_51, s193_54, s193_56, s193_58, s193_61, s193_64, s193_66, s193_67, s193_68, s193_70, s193_71, s193_75, s193_76, s193_77, s193_80, s193_81, s193_82, s193_83, s193_86, s193_87, s193_89, s193_90, s193_92, s193_94, s193_95, s193_98, s193_99, s193_100, s193_103, s193_105, s193_107, s193_109, s193_110, s193_111, s193_112, s193_113, s193_116, s193_117, s193_118, s193_121, s193_123, s193_124, s193_125, s193_127, s193_128, s193_129, s193_130, s193_133, s193_134, s193_135, s193_137, s193_140, s193_143, s193_144, s193_146, s193_147, s193_149, s193_151, s193_153, s193_156, s193_158, s193_160, s193_162, s193_163, s193_164, s193_165, s193_166, s193_169, s193_170, s193_172, s193_173, s193_176, s193_179, s193_180, s193_181, s193_183, s193_186, s193_189, s193_191, s193_192, s193_195, s193_197, s193_199, s193_202, s193_203, s193_205, s193_206, s193_209, s193_212, s193_214, s193_216, s193_217, s193_219, s193_222, s193_225, s193_228, s193_230, s193_231, s193_234, s193_236, s193_239, s193_241, ai_94 HM, ai_95 HM, ai_96 HM, gr_65_42 HM, gr_65_43 HM, gr_65_44 HM, gt_65 HM, am193, isRf_ref, true_and, and_true, aPs_s, aPs_n, b01_0, b01_1, nI_clamp, ix_nI, inb_nI, lt_nI, eq_nI, nn_nI, eq0_nI, pk_mul, nI_add, lt_T, lt_F, if_true, if_false, true_and, and_true, neg1_nI, neg1_lt, neg1_neg, lt_neg1, eqN_F, eq_self,  i4, e, Bool.not_false, Bool.not_true, Bool.true_and, Bool.false_and, Bool.and_true, Bool.and_false, Bool.or_true, Bool.or_false, Bool.true_or, Bool.false_or, Bool.true_eq_false, Bool.false_eq_true, if_true, if_false, Option.isSome_some, Option.isSome_none, Option.isNone_some, Option.isNone_none, zB_t, zB_f, nI1_0, nI0_0]
    exact hQ1 e
  | some s =>
    rcases plc_cases k 4 (by omega) with ⟨s', hs, rfl, e'⟩ | ⟨e', _⟩ | ⟨e', _⟩
    · rw [e'] at e
      cases e
      by_cases h1 : gI h 94 s = -1
      · simp (disch := first | omega | assumption | exact gt_65 HM | fail) only [s193_0, s193_1, s193_2, s193_3, s193_6, s193_9, s193_11, s193_12, s193_13, s193_16, s193_17, s193_18, s193_19, s193_22, s193_24, s193_25, s193_26, s193_27, s193_30, s193_33, s193_34, s193_35, s193_38, s193_41, s193_44, s193_45, s193_46, s193_48, s193_51, s193_54, s193_56, s193_58, s193_61, s193_64, s193_66, s193_67, s193_68, s193_70, s193_71, s193_75, s193_76, s193_77, s193_80, s193_81, s193_82, s193_83, s193_86, s193_87, s193_89, s193_90, s193_92, s193_94, s193_95, s193_98, s193_99, s193_100, s193_103, s193_105, s193_107, s193_109, s193_110, s193_111, s193_112, s193_113, s193_116, s193_117, s193_118, s193_121, s193_123, s193_124, s193_125, s193_127, s193_128, s193_129, s193_130, s193_133, s193_134, s193_135, s193_137, s193_140, s193_143, s193_144, s193_146, s193_147, s193_149, s193_151, s193_153, s193_156, s193_158, s193_160, s193_162, s193_163, s193_164, s193_165, s193_166, s193_169, s193_170, s193_172, s193_173, s193_176, s193_179, s193_180, s193_181, s193_183, s193_186, s193_189, s193_191, s193_192, s193_195, s193_197, s193_199, s193_202, s193_203, s193_205, s193_206, s193_209, s193_212, s193_214, s193_216, s193_217, s193_219, s193_222, s193_225, s193_228, s193_230, s193_231, s193_234, s193_236, s193_239, s193_241, ai_94 HM, ai_95 HM, ai_96 HM, gr_65_42 HM, gr_65_43 HM, gr_65_44 HM, gt_65 HM, am193, isRf_ref, true_and, and_true, aPs_s, aPs_n, b01_0, b01_1, nI_clamp, ix_nI, inb_nI, lt_nI, eq_nI, nn_nI, eq0_nI, pk_mul, nI_add, lt_T, lt_F, if_true, if_false, true_and, and_true, neg1_nI, neg1_lt, neg1_neg, lt_neg1, eqN_F, eq_self,  i4, e', Bool.not_false, Bool.not_true, Bool.true_and, Bool.false_and, Bool.and_true, Bool.and_false, Bool.or_true, Bool.or_false, Bool.true_or, Bool.false_or, Bool.true_eq_false, Bool.false_eq_true, if_true, if_false, Option.isSome_some, Option.isSome_none, Option.isNone_some, Option.isNone_none, zB_t, zB_f, nI1_0, nI0_0, hs, h1]
        exact hQ2 s e' h1
      · by_cases h2 : brI P h (nI s) = nI 0
        · have h2' := h2
          rw [nI_0] at h2'
          cases er : plc room 100000 with
          | none =>
            simp (disch := first | omega | assumption | exact gt_65 HM | fail) only [s193_0, s193_1, s193_2, s193_3, s193_6, s193_9, s193_11, s193_12, s193_13, s193_16, s193_17, s193_18, s193_19, s193_22, s193_24, s193_25, s193_26, s193_27, s193_30, s193_33, s193_34, s193_35, s193_38, s193_41, s193_44, s193_45, s193_46, s193_48, s193_51, s193_54, s193_56, s193_58, s193_61, s193_64, s193_66, s193_67, s193_68, s193_70, s193_71, s193_75, s193_76, s193_77, s193_80, s193_81, s193_82, s193_83, s193_86, s193_87, s193_89, s193_90, s193_92, s193_94, s193_95, s193_98, s193_99, s193_100, s193_103, s193_105, s193_107, s193_109, s193_110, s193_111, s193_112, s193_113, s193_116, s193_117, s193_118, s193_121, s193_123, s193_124, s193_125, s193_127, s193_128, s193_129, s193_130, s193_133, s193_134, s193_135, s193_137, s193_140, s193_143, s193_144, s193_146, s193_147, s193_149, s193_151, s193_153, s193_156, s193_158, s193_160, s193_162, s193_163, s193_164, s193_165, s193_166, s193_169, s193_170, s193_172, s193_173, s193_176, s193_179, s193_180, s193_181, s193_183, s193_186, s193_189, s193_191, s193_192, s193_195, s193_197, s193_199, s193_202, s193_203, s193_205, s193_206, s193_209, s193_212, s193_214, s193_216, s193_217, s193_219, s193_222, s193_225, s193_228, s193_230, s193_231, s193_234, s193_236, s193_239, s193_241, ai_94 HM, ai_95 HM, ai_96 HM, gr_65_42 HM, gr_65_43 HM, gr_65_44 HM, gt_65 HM, am193, isRf_ref, true_and, and_true, aPs_s, aPs_n, b01_0, b01_1, nI_clamp, ix_nI, inb_nI, lt_nI, eq_nI, nn_nI, eq0_nI, pk_mul, nI_add, lt_T, lt_F, if_true, if_false, true_and, and_true, neg1_nI, neg1_lt, neg1_neg, lt_neg1, eqN_F, eq_self,  i4, e', Bool.not_false, Bool.not_true, Bool.true_and, Bool.false_and, Bool.and_true, Bool.and_false, Bool.or_true, Bool.or_false, Bool.true_or, Bool.false_or, Bool.true_eq_false, Bool.false_eq_true, if_true, if_false, Option.isSome_some, Option.isSome_none, Option.isNone_some, Option.isNone_none, zB_t, zB_f, nI1_0, nI0_0, hs, h1, c184', h2', ir, er]
            exact hQ3 s e' h1 (Or.inr (Or.inl er))
          | some rm =>
            rcases plc_cases room 100000 (by omega) with ⟨rm', hrm, rfl, er'⟩ | ⟨er', _⟩ | ⟨er', _⟩
            · rw [er'] at er
              cases er
              rcases rt_cases rate with ⟨rt, r1, r2, rfl, r3⟩ | r3
              · have r3 : rtB (nI rt) = true := r3
                obtain ⟨s2, n, bb, hs2, hk2, _, _, hn1, hn2, B, _⟩ := brI_0 hz h2
                have : s2 = s := by
                  have := (eq_nI (show s < 2 ^ 31 by omega) (show s2 < 2 ^ 31 by omega)).mp hk2
                  omega
                subst this
                have q2 := hQ4 s2 n bb rm rt hs rfl e' h1 hn1 hn2 B h2 rfl hrm er' rfl r1 r2 r3
                simp (disch := first | omega | assumption | exact gt_65 HM | fail) only [s193_0, s193_1, s193_2, s193_3, s193_6, s193_9, s193_11, s193_12, s193_13, s193_16, s193_17, s193_18, s193_19, s193_22, s193_24, s193_25, s193_26, s193_27, s193_30, s193_33, s193_34, s193_35, s193_38, s193_41, s193_44, s193_45, s193_46, s193_48, s193_51, s193_54, s193_56, s193_58, s193_61, s193_64, s193_66, s193_67, s193_68, s193_70, s193_71, s193_75, s193_76, s193_77, s193_80, s193_81, s193_82, s193_83, s193_86, s193_87, s193_89, s193_90, s193_92, s193_94, s193_95, s193_98, s193_99, s193_100, s193_103, s193_105, s193_107, s193_109, s193_110, s193_111, s193_112, s193_113, s193_116, s193_117, s193_118, s193_121, s193_123, s193_124, s193_125, s193_127, s193_128, s193_129, s193_130, s193_133, s193_134, s193_135, s193_137, s193_140, s193_143, s193_144, s193_146, s193_147, s193_149, s193_151, s193_153, s193_156, s193_158, s193_160, s193_162, s193_163, s193_164, s193_165, s193_166, s193_169, s193_170, s193_172, s193_173, s193_176, s193_179, s193_180, s193_181, s193_183, s193_186, s193_189, s193_191, s193_192, s193_195, s193_197, s193_199, s193_202, s193_203, s193_205, s193_206, s193_209, s193_212, s193_214, s193_216, s193_217, s193_219, s193_222, s193_225, s193_228, s193_230, s193_231, s193_234, s193_236, s193_239, s193_241, ai_94 HM, ai_95 HM, ai_96 HM, gr_65_42 HM, gr_65_43 HM, gr_65_44 HM, gt_65 HM, am193, isRf_ref, true_and, and_true, aPs_s, aPs_n, b01_0, b01_1, nI_clamp, ix_nI, inb_nI, lt_nI, eq_nI, nn_nI, eq0_nI, pk_mul, nI_add, lt_T, lt_F, if_true, if_false, true_and, and_true, neg1_nI, neg1_lt, neg1_neg, lt_neg1, eqN_F, eq_self,  i4, e', Bool.not_false, Bool.not_true, Bool.true_and, Bool.false_and, Bool.and_true, Bool.and_false, Bool.or_true, Bool.or_false, Bool.true_or, Bool.false_or, Bool.true_eq_false, Bool.false_eq_true, if_true, if_false, Option.isSome_some, Option.isSome_none, Option.isNone_some, Option.isNone_none, zB_t, zB_f, nI1_0, nI0_0, hs, h1, c184', h2', ir, er', it, r3]
                rw [s193_57]
                simp (disch := first | omega | assumption | exact gt_65 HM | fail) only [s193_0, s193_1, s193_2, s193_3, s193_6, s193_9, s193_11, s193_12, s193_13, s193_16, s193_17, s193_18, s193_19, s193_22, s193_24, s193_25, s193_26, s193_27, s193_30, s193_33, s193_34, s193_35, s193_38, s193_41, s193_44, s193_45, s193_46, s193_48, s193_51, s193_54, s193_56, s193_57, s193_58, s193_61, s193_64, s193_66, s193_67, s193_68, s193_70, s193_71, s193_75, s193_76, s193_77, s193_80, s193_81, s193_82, s193_83, s193_86, s193_87, s193_89, s193_90, s193_92, s193_94, s193_95, s193_98, s193_99, s193_100, s193_103, s193_105, s193_107, s193_109, s193_110, s193_111, s193_112, s193_113, s193_116, s193_117, s193_118, s193_121, s193_123, s193_124, s193_125, s193_127, s193_128, s193_129, s193_130, s193_133, s193_134, s193_135, s193_137, s193_140, s193_143, s193_144, s193_146, s193_147, s193_149, s193_151, s193_153, s193_156, s193_158, s193_160, s193_162, s193_163, s193_164, s193_165, s193_166, s193_169, s193_170, s193_172, s193_173, s193_176, s193_179, s193_180, s193_181, s193_183, s193_186, s193_189, s193_191, s193_192, s193_195, s193_197, s193_199, s193_202, s193_203, s193_205, s193_206, s193_209, s193_212, s193_214, s193_216, s193_217, s193_219, s193_222, s193_225, s193_228, s193_230, s193_231, s193_234, s193_236, s193_239, s193_241, ai_94 HM, ai_95 HM, ai_96 HM, gr_65_42 HM, gr_65_43 HM, gr_65_44 HM, gt_65 HM, am193, isRf_ref, true_and, and_true, aPs_s, aPs_n, b01_0, b01_1, nI_clamp, ix_nI, inb_nI, lt_nI, eq_nI, nn_nI, eq0_nI, pk_mul, nI_add, lt_T, lt_F, if_true, if_false, true_and, and_true, neg1_nI, neg1_lt, neg1_neg, lt_neg1, eqN_F, eq_self, ]
                refine c163q HM hP V T (fun h' F => ?_)
                have HM2 := Fm_KM F HM
                cases hq : oRD P tl with
                | none =>
                  refine Or.inl ⟨rfl, ?_⟩
                  simp (disch := first | omega | assumption | exact gt_65 HM2 | fail) only [s193_0, s193_1, s193_2, s193_3, s193_6, s193_9, s193_11, s193_12, s193_13, s193_16, s193_17, s193_18, s193_19, s193_22, s193_24, s193_25, s193_26, s193_27, s193_30, s193_33, s193_34, s193_35, s193_38, s193_41, s193_44, s193_45, s193_46, s193_48, s193_51, s193_54, s193_56, s193_57, s193_58, s193_61, s193_64, s193_66, s193_67, s193_68, s193_70, s193_71, s193_75, s193_76, s193_77, s193_80, s193_81, s193_82, s193_83, s193_86, s193_87, s193_89, s193_90, s193_92, s193_94, s193_95, s193_98, s193_99, s193_100, s193_103, s193_105, s193_107, s193_109, s193_110, s193_111, s193_112, s193_113, s193_116, s193_117, s193_118, s193_121, s193_123, s193_124, s193_125, s193_127, s193_128, s193_129, s193_130, s193_133, s193_134, s193_135, s193_137, s193_140, s193_143, s193_144, s193_146, s193_147, s193_149, s193_151, s193_153, s193_156, s193_158, s193_160, s193_162, s193_163, s193_164, s193_165, s193_166, s193_169, s193_170, s193_172, s193_173, s193_176, s193_179, s193_180, s193_181, s193_183, s193_186, s193_189, s193_191, s193_192, s193_195, s193_197, s193_199, s193_202, s193_203, s193_205, s193_206, s193_209, s193_212, s193_214, s193_216, s193_217, s193_219, s193_222, s193_225, s193_228, s193_230, s193_231, s193_234, s193_236, s193_239, s193_241, ai_94 HM2, ai_95 HM2, ai_96 HM2, gr_65_42 HM2, gr_65_43 HM2, gr_65_44 HM2, gt_65 HM2, am193, isRf_ref, true_and, and_true, aPs_s, aPs_n, b01_0, b01_1, nI_clamp, ix_nI, inb_nI, lt_nI, eq_nI, nn_nI, eq0_nI, pk_mul, nI_add, lt_T, lt_F, if_true, if_false, true_and, and_true, neg1_nI, neg1_lt, neg1_neg, lt_neg1, eqN_F, eq_self,  Bool.not_false, Bool.not_true, Bool.true_and, Bool.false_and, Bool.and_true, Bool.and_false, Bool.or_true, Bool.or_false, Bool.true_or, Bool.false_or, Bool.true_eq_false, Bool.false_eq_true, if_true, if_false, Option.isSome_some, Option.isSome_none, Option.isNone_some, Option.isNone_none, zB_t, zB_f, nI1_0, nI0_0]
                  exact (q2 h' F).1 hq
                | some o =>
                  refine Or.inr ⟨o, rfl, fun O => ?_⟩
                  simp (disch := first | omega | assumption | exact gt_65 HM2 | fail) only [s193_0, s193_1, s193_2, s193_3, s193_6, s193_9, s193_11, s193_12, s193_13, s193_16, s193_17, s193_18, s193_19, s193_22, s193_24, s193_25, s193_26, s193_27, s193_30, s193_33, s193_34, s193_35, s193_38, s193_41, s193_44, s193_45, s193_46, s193_48, s193_51, s193_54, s193_56, s193_57, s193_58, s193_61, s193_64, s193_66, s193_67, s193_68, s193_70, s193_71, s193_75, s193_76, s193_77, s193_80, s193_81, s193_82, s193_83, s193_86, s193_87, s193_89, s193_90, s193_92, s193_94, s193_95, s193_98, s193_99, s193_100, s193_103, s193_105, s193_107, s193_109, s193_110, s193_111, s193_112, s193_113, s193_116, s193_117, s193_118, s193_121, s193_123, s193_124, s193_125, s193_127, s193_128, s193_129, s193_130, s193_133, s193_134, s193_135, s193_137, s193_140, s193_143, s193_144, s193_146, s193_147, s193_149, s193_151, s193_153, s193_156, s193_158, s193_160, s193_162, s193_163, s193_164, s193_165, s193_166, s193_169, s193_170, s193_172, s193_173, s193_176, s193_179, s193_180, s193_181, s193_183, s193_186, s193_189, s193_191, s193_192, s193_195, s193_197, s193_199, s193_202, s193_203, s193_205, s193_206, s193_209, s193_212, s193_214, s193_216, s193_217, s193_219, s193_222, s193_225, s193_228, s193_230, s193_231, s193_234, s193_236, s193_239, s193_241, ai_94 HM2, ai_95 HM2, ai_96 HM2, gr_65_42 HM2, gr_65_43 HM2, gr_65_44 HM2, gt_65 HM2, am193, isRf_ref, true_and, and_true, aPs_s, aPs_n, b01_0, b01_1, nI_clamp, ix_nI, inb_nI, lt_nI, eq_nI, nn_nI, eq0_nI, pk_mul, nI_add, lt_T, lt_F, if_true, if_false, true_and, and_true, neg1_nI, neg1_lt, neg1_neg, lt_neg1, eqN_F, eq_self,  Bool.not_false, Bool.not_true, Bool.true_and, Bool.false_and, Bool.and_true, Bool.and_false, Bool.or_true, Bool.or_false, Bool.true_or, Bool.false_or, Bool.true_eq_false, Bool.false_eq_true, if_true, if_false, Option.isSome_some, Option.isSome_none, Option.isNone_some, Option.isNone_none, zB_t, zB_f, nI1_0, nI0_0]
                  have e95 : gI h' 95 s2 = nI n := by rw [F.2.2.1 95 (by decide) (by decide)]; exact hn1
                  have B2 : shH h' s2 n bb := by intro i hi; rw [F.2.2.1 96 (by decide) (by decide)]; exact B i hi
                  rw [c193_73 HM2 ((Fm_pv F).trans hP) V O hs hn2 e95 B2 hrm r1 r2]
                  exact (q2 h' F).2 o hq
              · have r3 : rtB rate = false := r3
                simp (disch := first | omega | assumption | exact gt_65 HM | fail) only [s193_0, s193_1, s193_2, s193_3, s193_6, s193_9, s193_11, s193_12, s193_13, s193_16, s193_17, s193_18, s193_19, s193_22, s193_24, s193_25, s193_26, s193_27, s193_30, s193_33, s193_34, s193_35, s193_38, s193_41, s193_44, s193_45, s193_46, s193_48, s193_51, s193_54, s193_56, s193_58, s193_61, s193_64, s193_66, s193_67, s193_68, s193_70, s193_71, s193_75, s193_76, s193_77, s193_80, s193_81, s193_82, s193_83, s193_86, s193_87, s193_89, s193_90, s193_92, s193_94, s193_95, s193_98, s193_99, s193_100, s193_103, s193_105, s193_107, s193_109, s193_110, s193_111, s193_112, s193_113, s193_116, s193_117, s193_118, s193_121, s193_123, s193_124, s193_125, s193_127, s193_128, s193_129, s193_130, s193_133, s193_134, s193_135, s193_137, s193_140, s193_143, s193_144, s193_146, s193_147, s193_149, s193_151, s193_153, s193_156, s193_158, s193_160, s193_162, s193_163, s193_164, s193_165, s193_166, s193_169, s193_170, s193_172, s193_173, s193_176, s193_179, s193_180, s193_181, s193_183, s193_186, s193_189, s193_191, s193_192, s193_195, s193_197, s193_199, s193_202, s193_203, s193_205, s193_206, s193_209, s193_212, s193_214, s193_216, s193_217, s193_219, s193_222, s193_225, s193_228, s193_230, s193_231, s193_234, s193_236, s193_239, s193_241, ai_94 HM, ai_95 HM, ai_96 HM, gr_65_42 HM, gr_65_43 HM, gr_65_44 HM, gt_65 HM, am193, isRf_ref, true_and, and_true, aPs_s, aPs_n, b01_0, b01_1, nI_clamp, ix_nI, inb_nI, lt_nI, eq_nI, nn_nI, eq0_nI, pk_mul, nI_add, lt_T, lt_F, if_true, if_false, true_and, and_true, neg1_nI, neg1_lt, neg1_neg, lt_neg1, eqN_F, eq_self,  i4, e', Bool.not_false, Bool.not_true, Bool.true_and, Bool.false_and, Bool.and_true, Bool.and_false, Bool.or_true, Bool.or_false, Bool.true_or, Bool.false_or, Bool.true_eq_false, Bool.false_eq_true, if_true, if_false, Option.isSome_some, Option.isSome_none, Option.isNone_some, Option.isNone_none, zB_t, zB_f, nI1_0, nI0_0, hs, h1, c184', h2', ir, er', it, r3]
                exact hQ3 s e' h1 (Or.inr (Or.inr r3))
            · rw [er'] at er; cases er
            · rw [er'] at er; cases er
        · have h2' := h2
          rw [nI_0] at h2'
          simp (disch := first | omega | assumption | exact gt_65 HM | fail) only [s193_0, s193_1, s193_2, s193_3, s193_6, s193_9, s193_11, s193_12, s193_13, s193_16, s193_17, s193_18, s193_19, s193_22, s193_24, s193_25, s193_26, s193_27, s193_30, s193_33, s193_34, s193_35, s193_38, s193_41, s193_44, s193_45, s193_46, s193_48, s193_51, s193_54, s193_56, s193_58, s193_61, s193_64, s193_66, s193_67, s193_68, s193_70, s193_71, s193_75, s193_76, s193_77, s193_80, s193_81, s193_82, s193_83, s193_86, s193_87, s193_89, s193_90, s193_92, s193_94, s193_95, s193_98, s193_99, s193_100, s193_103, s193_105, s193_107, s193_109, s193_110, s193_111, s193_112, s193_113, s193_116, s193_117, s193_118, s193_121, s193_123, s193_124, s193_125, s193_127, s193_128, s193_129, s193_130, s193_133, s193_134, s193_135, s193_137, s193_140, s193_143, s193_144, s193_146, s193_147, s193_149, s193_151, s193_153, s193_156, s193_158, s193_160, s193_162, s193_163, s193_164, s193_165, s193_166, s193_169, s193_170, s193_172, s193_173, s193_176, s193_179, s193_180, s193_181, s193_183, s193_186, s193_189, s193_191, s193_192, s193_195, s193_197, s193_199, s193_202, s193_203, s193_205, s193_206, s193_209, s193_212, s193_214, s193_216, s193_217, s193_219, s193_222, s193_225, s193_228, s193_230, s193_231, s193_234, s193_236, s193_239, s193_241, ai_94 HM, ai_95 HM, ai_96 HM, gr_65_42 HM, gr_65_43 HM, gr_65_44 HM, gt_65 HM, am193, isRf_ref, true_and, and_true, aPs_s, aPs_n, b01_0, b01_1, nI_clamp, ix_nI, inb_nI, lt_nI, eq_nI, nn_nI, eq0_nI, pk_mul, nI_add, lt_T, lt_F, if_true, if_false, true_and, and_true, neg1_nI, neg1_lt, neg1_neg, lt_neg1, eqN_F, eq_self,  i4, e', Bool.not_false, Bool.not_true, Bool.true_and, Bool.false_and, Bool.and_true, Bool.and_false, Bool.or_true, Bool.or_false, Bool.true_or, Bool.false_or, Bool.true_eq_false, Bool.false_eq_true, if_true, if_false, Option.isSome_some, Option.isSome_none, Option.isNone_some, Option.isNone_none, zB_t, zB_f, nI1_0, nI0_0, hs, h1, c184', h2']
          exact hQ3 s e' h1 (Or.inl h2)
    · rw [e'] at e; cases e
    · rw [e'] at e; cases e
theorem t194 (HM : KM h) : aM d 194 [.ref 65] h Q = Q (some (.int (gI h 65 29))) h := by
  simp (disch := first | omega | assumption | exact gt_65 HM | fail) only [s194_0, s194_1, s194_4, gt_65 HM, am194, isRf_ref, true_and, and_true, aPs_s, aPs_n, b01_0, b01_1, nI_clamp, ix_nI, inb_nI, lt_nI, eq_nI, nn_nI, eq0_nI, pk_mul, nI_add, lt_T, lt_F, if_true, if_false, true_and, and_true, neg1_nI, neg1_lt, neg1_neg, lt_neg1, eqN_F, eq_self, ]
end M24
/-! THE REFERENCE: a PAIR -/
/-- how many ticks the first k places take, 400 at most -/
def tkA (P : Nat → Nat → Int32) (o : Nat → Nat) : Nat → Nat
  | 0 => 0
  | k + 1 => min 400 (tkA P o k + zT P (o k))
theorem tkA_le {P : Nat → Nat → Int32} {o : Nat → Nat} : ∀ {k : Nat}, tkA P o k ≤ 400 := by
  intro k
  cases k with
  | zero => exact Nat.zero_le _
  | succ k => exact Nat.min_le_left _ _
theorem tkA_mono {P : Nat → Nat → Int32} {o : Nat → Nat} {k : Nat} : tkA P o k ≤ tkA P o (k + 1) := by
  have := tkA_le (P := P) (o := o) (k := k)
  rw [tkA]
  omega
/-- LOAD in a tick -/
def hdA (P : Nat → Nat → Int32) (o : Nat → Nat) : Nat → Nat → Nat
  | 0, _ => 0
  | k + 1, t => if tkA P o k ≤ t then zLd P o k else hdA P o k t
theorem hdA_le {P : Nat → Nat → Int32} (V : okP P) {o : Nat → Nat} (ho : ∀ k, k < nS P → o k < nS P) : ∀ {k t : Nat}, k ≤ nS P → hdA P o k t ≤ 666468 := by
  intro k
  induction k with
  | zero => intro t _; exact Nat.zero_le _
  | succ k ih =>
    intro t hk
    rw [hdA]
    split
    · exact zLd_le V (ho k (by omega))
    · exact ih (by omega)
def hH (h : abH) (T : Nat) (f : Nat → Nat) : abH := pI (pA h 103 (pre (fun t => nI (f t)) T (gI h 103))) 65 53 (nI T)
theorem hH_up {h : abH} {T : Nat} {f : Nat → Nat} {x : Nat} (hx : f T = x) : pI (pI (hH h T f) 103 T (nI x)) 65 53 (nI (T + 1)) = hH h (T + 1) f := by
  subst hx
  unfold hH
  simp only [pI_def, gI_eq, gI_ne (show (103 : Nat) ≠ 65 by decide), gI_ne (show (65 : Nat) ≠ 103 by decide), pA_comm (show (65 : Nat) ≠ 103 by decide), pA_pA, pre_upd, upd_upd]
theorem hH_ext {h : abH} {T : Nat} {f g : Nat → Nat} (e : ∀ t, t < T → f t = g t) : hH h T f = hH h T g := by
  unfold hH
  rw [pre_ext (g := fun t => nI (f t)) (g' := fun t => nI (g t)) (fun j hj => by rw [e j hj])]
/-- what both runs hold in a tick -/
def pbS (T : Nat) (hd : Nat → Nat) (ph t : Nat) : Nat := (if t < T then hd t else 0) + (if t < ph then 0 else hd (t - ph))
def pbM (T : Nat) (hd : Nat → Nat) (ph : Nat) : Nat → Nat
  | 0 => 0
  | t + 1 => if pbM T hd ph t < pbS T hd ph t then pbS T hd ph t else pbM T hd ph t
theorem pbS_le {T : Nat} {hd : Nat → Nat} {ph t : Nat} (hl : ∀ t, hd t ≤ 666468) : pbS T hd ph t ≤ 1332936 := by
  unfold pbS
  have := hl t
  have := hl (t - ph)
  split <;> split <;> omega
theorem pbM_le {T : Nat} {hd : Nat → Nat} {ph : Nat} (hl : ∀ t, hd t ≤ 666468) : ∀ {t : Nat}, pbM T hd ph t ≤ 1332936 := by
  intro t
  induction t with
  | zero => exact Nat.zero_le _
  | succ t ih =>
    rw [pbM]
    split
    · exact pbS_le hl
    · exact ih
def pbR (T : Nat) (hd : Nat → Nat) (ph : Nat) : Nat := pbM T hd ph (T + ph)
def bpF (f : Nat → Nat) : Nat → Nat × Nat
  | 0 => (0, f 0)
  | p + 1 => if f (p + 1) < (bpF f p).2 then (p + 1, f (p + 1)) else bpF f p
theorem bpF_le {f : Nat → Nat} {B : Nat} (hf : ∀ p, f p ≤ B) : ∀ {m : Nat}, (bpF f m).1 ≤ m ∧ (bpF f m).2 ≤ B := by
  intro m
  induction m with
  | zero => exact ⟨Nat.le_refl _, hf 0⟩
  | succ m ih =>
    rw [bpF]
    split
    · exact ⟨Nat.le_refl _, hf _⟩
    · exact ⟨Nat.le_succ_of_le ih.1, ih.2⟩
section M24b
variable {d : Nat} {h : abH} {Q : Option Value → abH → Prop}
set_option maxHeartbeats 4000000 in
theorem c195_50 (HM : KM h) {P : Nat → Nat → Int32} (V : okP P) {o : Nat → Nat} {k n : Nat} (hk : o k < nS P) (hn : n ≤ 299) (hnk : n = zT P (o k)) {C : Prop} (hC : ∀ x, aW (d + 3) 195 92 [.ref 65, .int (nI k), .int (nI (zLd P o k)), .int (nI n), x] [] (hH h (tkA P o (k + 1)) (hdA P o (k + 1))) Q = C) : aW (d + 3) 195 50 [.ref 65, .int (nI k), .int (nI (zLd P o k)), .int (nI n), .int (nI 0)] [] (hH h (tkA P o k) (hdA P o k)) Q = C := by
  have hT := tkA_le (P := P) (o := o) (k := k)
  have hT1 : tkA P o (k + 1) = min 400 (tkA P o k + n) := by rw [hnk]; rfl
  have e0 : hH h (tkA P o k) (hdA P o k) = hH h (tkA P o k) (hdA P o (k + 1)) := hH_ext (fun t ht => by rw [hdA, if_neg (by omega)])
  rw [e0]
  have loop := for_0 (F := fun t => aW (d + 3) 195 50 [.ref 65, .int (nI k), .int (nI (zLd P o k)), .int (nI n), .int (nI t)] [] (hH h (tkA P o k + t) (hdA P o (k + 1))) Q) (R := C) (min n (400 - tkA P o k)) (by
    have e1 : tkA P o k + min n (400 - tkA P o k) = tkA P o (k + 1) := by omega
    have e2 : gI (hH h (tkA P o (k + 1)) (hdA P o (k + 1))) 65 53 = nI (tkA P o (k + 1)) := by unfold hH; rw [pI_def, gI_eq, upd_eq]
    have HM2 : KM (hH h (tkA P o (k + 1)) (hdA P o (k + 1))) := HM
    rw [e1, s195_50]
    by_cases h1 : min n (400 - tkA P o k) < n
    · have h2 : tkA P o (k + 1) = 400 := by omega
      rw [h2] at e2 HM2 hC ⊢
      simp (disch := first | omega | assumption | exact gt_65 HM2 | fail) only [s195_0, s195_1, s195_2, s195_5, s195_6, s195_7, s195_8, s195_9, s195_12, s195_15, s195_16, s195_17, s195_20, s195_21, s195_22, s195_25, s195_26, s195_29, s195_30, s195_31, s195_32, s195_33, s195_36, s195_37, s195_40, s195_41, s195_42, s195_43, s195_46, s195_47, s195_48, s195_52, s195_53, s195_56, s195_57, s195_60, s195_63, s195_66, s195_67, s195_70, s195_71, s195_74, s195_75, s195_76, s195_77, s195_78, s195_81, s195_82, s195_83, s195_86, s195_89, s195_95, s195_98, ai_73 HM2, ai_74 HM2, ai_97 HM2, aj_103 HM2, gr_65_10 HM2, gr_65_11 HM2, gr_65_46 HM2, gr_65_52 HM2, gt_65 HM2, am195, isRf_ref, true_and, and_true, aPs_s, aPs_n, b01_0, b01_1, nI_clamp, ix_nI, inb_nI, lt_nI, eq_nI, nn_nI, eq0_nI, pk_mul, nI_add, lt_T, lt_F, if_true, if_false, true_and, and_true, neg1_nI, neg1_lt, neg1_neg, lt_neg1, eqN_F, eq_self,  h1, e2, Nat.lt_irrefl]
      exact hC _
    · simp (disch := first | omega | assumption | exact gt_65 HM2 | fail) only [s195_0, s195_1, s195_2, s195_5, s195_6, s195_7, s195_8, s195_9, s195_12, s195_15, s195_16, s195_17, s195_20, s195_21, s195_22, s195_25, s195_26, s195_29, s195_30, s195_31, s195_32, s195_33, s195_36, s195_37, s195_40, s195_41, s195_42, s195_43, s195_46, s195_47, s195_48, s195_52, s195_53, s195_56, s195_57, s195_60, s195_63, s195_66, s195_67, s195_70, s195_71, s195_74, s195_75, s195_76, s195_77, s195_78, s195_81, s195_82, s195_83, s195_86, s195_89, s195_95, s195_98, ai_73 HM2, ai_74 HM2, ai_97 HM2, aj_103 HM2, gr_65_10 HM2, gr_65_11 HM2, gr_65_46 HM2, gr_65_52 HM2, gt_65 HM2, am195, isRf_ref, true_and, and_true, aPs_s, aPs_n, b01_0, b01_1, nI_clamp, ix_nI, inb_nI, lt_nI, eq_nI, nn_nI, eq0_nI, pk_mul, nI_add, lt_T, lt_F, if_true, if_false, true_and, and_true, neg1_nI, neg1_lt, neg1_neg, lt_neg1, eqN_F, eq_self,  h1]
      exact hC _) (fun t ht => by
    have h1 : t < n := by omega
    have h2 : tkA P o k + t < 400 := by omega
    have HM2 : KM (hH h (tkA P o k + t) (hdA P o (k + 1))) := HM
    have HM3 : KM (pI (hH h (tkA P o k + t) (hdA P o (k + 1))) 103 (tkA P o k + t) (nI (zLd P o k))) := HM
    have t65 := gt_65 HM3
    have e2 : gI (hH h (tkA P o k + t) (hdA P o (k + 1))) 65 53 = nI (tkA P o k + t) := by unfold hH; rw [pI_def, gI_eq, upd_eq]
    have e3 : gI (pI (hH h (tkA P o k + t) (hdA P o (k + 1))) 103 (tkA P o k + t) (nI (zLd P o k))) 65 53 = nI (tkA P o k + t) := by rw [pI_def, gI_ne (by decide), e2]
    have up := hH_up (h := h) (T := tkA P o k + t) (f := hdA P o (k + 1)) (x := zLd P o k) (by rw [hdA, if_pos (by omega)])
    rw [s195_50]
    simp (disch := first | omega | assumption | exact gt_65 HM2 | fail) only [s195_0, s195_1, s195_2, s195_5, s195_6, s195_7, s195_8, s195_9, s195_12, s195_15, s195_16, s195_17, s195_20, s195_21, s195_22, s195_25, s195_26, s195_29, s195_30, s195_31, s195_32, s195_33, s195_36, s195_37, s195_40, s195_41, s195_42, s195_43, s195_46, s195_47, s195_48, s195_52, s195_53, s195_56, s195_57, s195_60, s195_63, s195_66, s195_67, s195_70, s195_71, s195_74, s195_75, s195_76, s195_77, s195_78, s195_81, s195_82, s195_83, s195_86, s195_89, s195_95, s195_98, ai_73 HM2, ai_74 HM2, ai_97 HM2, aj_103 HM2, gr_65_10 HM2, gr_65_11 HM2, gr_65_46 HM2, gr_65_52 HM2, gt_65 HM2, am195, isRf_ref, true_and, and_true, aPs_s, aPs_n, b01_0, b01_1, nI_clamp, ix_nI, inb_nI, lt_nI, eq_nI, nn_nI, eq0_nI, pk_mul, nI_add, lt_T, lt_F, if_true, if_false, true_and, and_true, neg1_nI, neg1_lt, neg1_neg, lt_neg1, eqN_F, eq_self,  h1, h2, e2, t65, e3, up, Nat.add_assoc]
    rw [← Nat.add_assoc, up])
  exact loop
set_option maxHeartbeats 4000000 in
theorem c195 (HM : KM h) {P : Nat → Nat → Int32} (hP : pv h = P) (V : okP P) {o : Nat → Nat} (O : ovH h P o) : aM (d + 3) 195 [.ref 65] h Q = Q none (hH h (tkA P o (nS P)) (hdA P o (nS P))) := by
  have s10 := V.s.1
  have loop := for_ds (σ := Value × Value × Value) (F := fun k σ => aW (d + 3) 195 7 [.ref 65, .int (nI k), σ.1, σ.2.1, σ.2.2] [] (hH h (tkA P o k) (hdA P o k)) Q) (R := fun _ => Q none (hH h (tkA P o (nS P)) (hdA P o (nS P)))) (nS P) (fun σ => by
    have HM2 : KM (hH h (tkA P o (nS P)) (hdA P o (nS P))) := HM
    have e4 : gI (hH h (tkA P o (nS P)) (hdA P o (nS P))) 65 4 = nI (nS P) := by unfold hH; rw [pI_def, gI_eq, upd_ne (by decide), gI_ne (by decide)]; exact hS hP V
    rw [s195_7]
    simp (disch := first | omega | assumption | exact gt_65 HM2 | fail) only [s195_0, s195_1, s195_2, s195_5, s195_6, s195_8, s195_9, s195_12, s195_15, s195_16, s195_17, s195_20, s195_21, s195_22, s195_25, s195_26, s195_29, s195_30, s195_31, s195_32, s195_33, s195_36, s195_37, s195_40, s195_41, s195_42, s195_43, s195_46, s195_47, s195_48, s195_52, s195_53, s195_56, s195_57, s195_60, s195_63, s195_66, s195_67, s195_70, s195_71, s195_74, s195_75, s195_76, s195_77, s195_78, s195_81, s195_82, s195_83, s195_86, s195_89, s195_95, s195_98, ai_73 HM2, ai_74 HM2, ai_97 HM2, aj_103 HM2, gr_65_10 HM2, gr_65_11 HM2, gr_65_46 HM2, gr_65_52 HM2, gt_65 HM2, am195, isRf_ref, true_and, and_true, aPs_s, aPs_n, b01_0, b01_1, nI_clamp, ix_nI, inb_nI, lt_nI, eq_nI, nn_nI, eq0_nI, pk_mul, nI_add, lt_T, lt_F, if_true, if_false, true_and, and_true, neg1_nI, neg1_lt, neg1_neg, lt_neg1, eqN_F, eq_self,  e4, Nat.lt_irrefl]) (fun k hk ih σ => by
    obtain ⟨o1, o2⟩ := O.1 k hk
    have hz := zT_le V o2
    have hl := zLd_le V o2
    have HM2 : KM (hH h (tkA P o k) (hdA P o k)) := HM
    have hP2 : pv (hH h (tkA P o k) (hdA P o k)) = P := by unfold hH; rw [pv_pI (by omega), pv_pA (by omega)]; exact hP
    have O2 : ovH (hH h (tkA P o k) (hdA P o k)) P o := O
    have e4 : gI (hH h (tkA P o k) (hdA P o k)) 65 4 = nI (nS P) := hS hP2 V
    have e97 : gI (hH h (tkA P o k) (hdA P o k)) 97 k = nI (o k) := o1
    have e73 : gI (hH h (tkA P o k) (hdA P o k)) 73 (o k) = P 73 (o k) := by rw [← hP]; rfl
    have e74 : gI (hH h (tkA P o k) (hdA P o k)) 74 (o k) = P 74 (o k) := by rw [← hP]; rfl
    have c170' : ∀ Q', aM (d + 2) 170 [.ref 65, .int (nI k)] (hH h (tkA P o k) (hdA P o k)) Q' = Q' (some (.int (nI (zLd P o k)))) (hH h (tkA P o k) (hdA P o k)) := fun Q' => c170 HM2 hP2 V O2 hk
    rw [s195_7]
    simp (disch := first | omega | assumption | exact gt_65 HM2 | fail) only [s195_0, s195_1, s195_2, s195_5, s195_6, s195_8, s195_9, s195_12, s195_15, s195_16, s195_17, s195_20, s195_21, s195_22, s195_25, s195_26, s195_29, s195_30, s195_31, s195_32, s195_33, s195_36, s195_37, s195_40, s195_41, s195_42, s195_43, s195_46, s195_47, s195_48, s195_52, s195_53, s195_56, s195_57, s195_60, s195_63, s195_66, s195_67, s195_70, s195_71, s195_74, s195_75, s195_76, s195_77, s195_78, s195_81, s195_82, s195_83, s195_86, s195_89, s195_95, s195_98, ai_73 HM2, ai_74 HM2, ai_97 HM2, aj_103 HM2, gr_65_10 HM2, gr_65_11 HM2, gr_65_46 HM2, gr_65_52 HM2, gt_65 HM2, am195, isRf_ref, true_and, and_true, aPs_s, aPs_n, b01_0, b01_1, nI_clamp, ix_nI, inb_nI, lt_nI, eq_nI, nn_nI, eq0_nI, pk_mul, nI_add, lt_T, lt_F, if_true, if_false, true_and, and_true, neg1_nI, neg1_lt, neg1_neg, lt_neg1, eqN_F, eq_self,  e4, hk, c170', e97, e73, e74, c155, hz.1]
    refine c195_50 HM V o2 hz.2 rfl (fun x => ?_)
    have HM3 : KM (hH h (tkA P o (k + 1)) (hdA P o (k + 1))) := HM
    rw [s195_92]
    simp (disch := first | omega | assumption | exact gt_65 HM3 | fail) only [s195_0, s195_1, s195_2, s195_5, s195_6, s195_8, s195_9, s195_12, s195_15, s195_16, s195_17, s195_20, s195_21, s195_22, s195_25, s195_26, s195_29, s195_30, s195_31, s195_32, s195_33, s195_36, s195_37, s195_40, s195_41, s195_42, s195_43, s195_46, s195_47, s195_48, s195_52, s195_53, s195_56, s195_57, s195_60, s195_63, s195_66, s195_67, s195_70, s195_71, s195_74, s195_75, s195_76, s195_77, s195_78, s195_81, s195_82, s195_83, s195_86, s195_89, s195_95, s195_98, ai_73 HM3, ai_74 HM3, ai_97 HM3, aj_103 HM3, gr_65_10 HM3, gr_65_11 HM3, gr_65_46 HM3, gr_65_52 HM3, gt_65 HM3, am195, isRf_ref, true_and, and_true, aPs_s, aPs_n, b01_0, b01_1, nI_clamp, ix_nI, inb_nI, lt_nI, eq_nI, nn_nI, eq0_nI, pk_mul, nI_add, lt_T, lt_F, if_true, if_false, true_and, and_true, neg1_nI, neg1_lt, neg1_neg, lt_neg1, eqN_F, eq_self, ]
    exact ih (.int (nI (zLd P o k)), .int (nI (zT P (o k))), x))
  have l0 := loop 0 (Nat.zero_le _) (.retAddr 0, .retAddr 0, .retAddr 0)
  have e0 : pI h 65 53 (nI 0) = hH h (tkA P o 0) (hdA P o 0) := by
    unfold hH
    rw [show tkA P o 0 = 0 from rfl, pre_0, pA_self]
  have HM4 : KM (pI h 65 53 (nI 0)) := HM
  simp (disch := first | omega | assumption | exact gt_65 HM | fail) only [s195_0, s195_1, s195_2, s195_5, s195_6, s195_8, s195_9, s195_12, s195_15, s195_16, s195_17, s195_20, s195_21, s195_22, s195_25, s195_26, s195_29, s195_30, s195_31, s195_32, s195_33, s195_36, s195_37, s195_40, s195_41, s195_42, s195_43, s195_46, s195_47, s195_48, s195_50, s195_52, s195_53, s195_56, s195_57, s195_60, s195_63, s195_66, s195_67, s195_70, s195_71, s195_74, s195_75, s195_76, s195_77, s195_78, s195_81, s195_82, s195_83, s195_86, s195_89, s195_92, s195_95, s195_98, ai_73 HM, ai_74 HM, ai_97 HM, aj_103 HM, gr_65_10 HM, gr_65_11 HM, gr_65_46 HM, gr_65_52 HM, gt_65 HM, am195, isRf_ref, true_and, and_true, aPs_s, aPs_n, b01_0, b01_1, nI_clamp, ix_nI, inb_nI, lt_nI, eq_nI, nn_nI, eq0_nI, pk_mul, nI_add, lt_T, lt_F, if_true, if_false, true_and, and_true, neg1_nI, neg1_lt, neg1_neg, lt_neg1, eqN_F, eq_self,  e0]
  exact l0
set_option maxHeartbeats 4000000 in
theorem c196 (HM : KM h) {T ph : Nat} {hd : Nat → Nat} (hT : T ≤ 400) (hph : ph ≤ 400) (h53 : gI h 65 53 = nI T) (hh : ∀ t, t < T → gI h 103 t = nI (hd t)) (hl : ∀ t, hd t ≤ 666468) : aM d 196 [.ref 65, .int (nI ph)] h Q = Q (some (.int (nI (pbR T hd ph)))) h := by
  have loop := for_s (σ := Value) (F := fun t σ => aW d 196 4 [.ref 65, .int (nI ph), .int (nI (pbM T hd ph t)), .int (nI t), σ] [] h Q) (R := Q (some (.int (nI (pbR T hd ph)))) h) (T + ph) (fun σ => by
    rw [s196_4]
    simp (disch := first | omega | assumption | exact gt_65 HM | fail) only [s196_0, s196_1, s196_2, s196_3, s196_5, s196_6, s196_9, s196_10, s196_11, s196_14, s196_15, s196_16, s196_19, s196_22, s196_23, s196_26, s196_27, s196_28, s196_31, s196_34, s196_35, s196_38, s196_39, s196_40, s196_43, s196_44, s196_45, s196_46, s196_49, s196_50, s196_53, s196_54, s196_55, s196_58, s196_59, s196_60, s196_61, s196_64, s196_65, s196_66, s196_69, s196_70, s196_71, s196_73, s196_75, s196_76, s196_79, s196_81, s196_84, s196_85, s196_86, s196_89, s196_92, s196_93, ai_103 HM, gr_65_52 HM, gt_65 HM, am196, isRf_ref, true_and, and_true, aPs_s, aPs_n, b01_0, b01_1, nI_clamp, ix_nI, inb_nI, lt_nI, eq_nI, nn_nI, eq0_nI, pk_mul, nI_add, lt_T, lt_F, if_true, if_false, true_and, and_true, neg1_nI, neg1_lt, neg1_neg, lt_neg1, eqN_F, eq_self,  h53, Nat.lt_irrefl]
    rfl) (fun t ht σ => by
    refine ⟨.int (nI (pbS T hd ph t)), ?_⟩
    have hs := pbS_le (T := T) (ph := ph) (t := t) hl
    have hm := pbM_le (T := T) (ph := ph) hl (t := t)
    have g0 := hl t
    have g1 := hl (t - ph)
    rw [s196_4, pbM]
    unfold pbS at hs ⊢
    by_cases h1 : t < T
    · by_cases h2 : t < ph
      · by_cases h3 : pbM T hd ph t < hd t + 0
        · simp (disch := first | omega | assumption | exact gt_65 HM | fail) only [s196_0, s196_1, s196_2, s196_3, s196_5, s196_6, s196_9, s196_10, s196_11, s196_14, s196_15, s196_16, s196_19, s196_22, s196_23, s196_26, s196_27, s196_28, s196_31, s196_34, s196_35, s196_38, s196_39, s196_40, s196_43, s196_44, s196_45, s196_46, s196_49, s196_50, s196_53, s196_54, s196_55, s196_58, s196_59, s196_60, s196_61, s196_64, s196_65, s196_66, s196_69, s196_70, s196_71, s196_73, s196_75, s196_76, s196_79, s196_81, s196_84, s196_85, s196_86, s196_89, s196_92, s196_93, ai_103 HM, gr_65_52 HM, gt_65 HM, am196, isRf_ref, true_and, and_true, aPs_s, aPs_n, b01_0, b01_1, nI_clamp, ix_nI, inb_nI, lt_nI, eq_nI, nn_nI, eq0_nI, pk_mul, nI_add, lt_T, lt_F, if_true, if_false, true_and, and_true, neg1_nI, neg1_lt, neg1_neg, lt_neg1, eqN_F, eq_self,  h53, ht, h1, h2, h3, hh]
        · simp (disch := first | omega | assumption | exact gt_65 HM | fail) only [s196_0, s196_1, s196_2, s196_3, s196_5, s196_6, s196_9, s196_10, s196_11, s196_14, s196_15, s196_16, s196_19, s196_22, s196_23, s196_26, s196_27, s196_28, s196_31, s196_34, s196_35, s196_38, s196_39, s196_40, s196_43, s196_44, s196_45, s196_46, s196_49, s196_50, s196_53, s196_54, s196_55, s196_58, s196_59, s196_60, s196_61, s196_64, s196_65, s196_66, s196_69, s196_70, s196_71, s196_73, s196_75, s196_76, s196_79, s196_81, s196_84, s196_85, s196_86, s196_89, s196_92, s196_93, ai_103 HM, gr_65_52 HM, gt_65 HM, am196, isRf_ref, true_and, and_true, aPs_s, aPs_n, b01_0, b01_1, nI_clamp, ix_nI, inb_nI, lt_nI, eq_nI, nn_nI, eq0_nI, pk_mul, nI_add, lt_T, lt_F, if_true, if_false, true_and, and_true, neg1_nI, neg1_lt, neg1_neg, lt_neg1, eqN_F, eq_self,  h53, ht, h1, h2, h3, hh]
      · have e5 : nI t - nI ph = nI (t - ph) := pk_sub (by omega)
        have h4 : t - ph < T := by omega
        by_cases h3 : pbM T hd ph t < hd t + hd (t - ph)
        · simp (disch := first | omega | assumption | exact gt_65 HM | fail) only [s196_0, s196_1, s196_2, s196_3, s196_5, s196_6, s196_9, s196_10, s196_11, s196_14, s196_15, s196_16, s196_19, s196_22, s196_23, s196_26, s196_27, s196_28, s196_31, s196_34, s196_35, s196_38, s196_39, s196_40, s196_43, s196_44, s196_45, s196_46, s196_49, s196_50, s196_53, s196_54, s196_55, s196_58, s196_59, s196_60, s196_61, s196_64, s196_65, s196_66, s196_69, s196_70, s196_71, s196_73, s196_75, s196_76, s196_79, s196_81, s196_84, s196_85, s196_86, s196_89, s196_92, s196_93, ai_103 HM, gr_65_52 HM, gt_65 HM, am196, isRf_ref, true_and, and_true, aPs_s, aPs_n, b01_0, b01_1, nI_clamp, ix_nI, inb_nI, lt_nI, eq_nI, nn_nI, eq0_nI, pk_mul, nI_add, lt_T, lt_F, if_true, if_false, true_and, and_true, neg1_nI, neg1_lt, neg1_neg, lt_neg1, eqN_F, eq_self,  h53, ht, h1, h2, h3, hh, e5, h4]
        · simp (disch := first | omega | assumption | exact gt_65 HM | fail) only [s196_0, s196_1, s196_2, s196_3, s196_5, s196_6, s196_9, s196_10, s196_11, s196_14, s196_15, s196_16, s196_19, s196_22, s196_23, s196_26, s196_27, s196_28, s196_31, s196_34, s196_35, s196_38, s196_39, s196_40, s196_43, s196_44, s196_45, s196_46, s196_49, s196_50, s196_53, s196_54, s196_55, s196_58, s196_59, s196_60, s196_61, s196_64, s196_65, s196_66, s196_69, s196_70, s196_71, s196_73, s196_75, s196_76, s196_79, s196_81, s196_84, s196_85, s196_86, s196_89, s196_92, s196_93, ai_103 HM, gr_65_52 HM, gt_65 HM, am196, isRf_ref, true_and, and_true, aPs_s, aPs_n, b01_0, b01_1, nI_clamp, ix_nI, inb_nI, lt_nI, eq_nI, nn_nI, eq0_nI, pk_mul, nI_add, lt_T, lt_F, if_true, if_false, true_and, and_true, neg1_nI, neg1_lt, neg1_neg, lt_neg1, eqN_F, eq_self,  h53, ht, h1, h2, h3, hh, e5, h4]
    · by_cases h2 : t < ph
      · by_cases h3 : pbM T hd ph t < 0 + 0
        · omega
        · simp (disch := first | omega | assumption | exact gt_65 HM | fail) only [s196_0, s196_1, s196_2, s196_3, s196_5, s196_6, s196_9, s196_10, s196_11, s196_14, s196_15, s196_16, s196_19, s196_22, s196_23, s196_26, s196_27, s196_28, s196_31, s196_34, s196_35, s196_38, s196_39, s196_40, s196_43, s196_44, s196_45, s196_46, s196_49, s196_50, s196_53, s196_54, s196_55, s196_58, s196_59, s196_60, s196_61, s196_64, s196_65, s196_66, s196_69, s196_70, s196_71, s196_73, s196_75, s196_76, s196_79, s196_81, s196_84, s196_85, s196_86, s196_89, s196_92, s196_93, ai_103 HM, gr_65_52 HM, gt_65 HM, am196, isRf_ref, true_and, and_true, aPs_s, aPs_n, b01_0, b01_1, nI_clamp, ix_nI, inb_nI, lt_nI, eq_nI, nn_nI, eq0_nI, pk_mul, nI_add, lt_T, lt_F, if_true, if_false, true_and, and_true, neg1_nI, neg1_lt, neg1_neg, lt_neg1, eqN_F, eq_self,  h53, ht, h1, h2, h3, hh]
      · have e5 : nI t - nI ph = nI (t - ph) := pk_sub (by omega)
        have h4 : t - ph < T := by omega
        by_cases h3 : pbM T hd ph t < 0 + hd (t - ph)
        · simp (disch := first | omega | assumption | exact gt_65 HM | fail) only [s196_0, s196_1, s196_2, s196_3, s196_5, s196_6, s196_9, s196_10, s196_11, s196_14, s196_15, s196_16, s196_19, s196_22, s196_23, s196_26, s196_27, s196_28, s196_31, s196_34, s196_35, s196_38, s196_39, s196_40, s196_43, s196_44, s196_45, s196_46, s196_49, s196_50, s196_53, s196_54, s196_55, s196_58, s196_59, s196_60, s196_61, s196_64, s196_65, s196_66, s196_69, s196_70, s196_71, s196_73, s196_75, s196_76, s196_79, s196_81, s196_84, s196_85, s196_86, s196_89, s196_92, s196_93, ai_103 HM, gr_65_52 HM, gt_65 HM, am196, isRf_ref, true_and, and_true, aPs_s, aPs_n, b01_0, b01_1, nI_clamp, ix_nI, inb_nI, lt_nI, eq_nI, nn_nI, eq0_nI, pk_mul, nI_add, lt_T, lt_F, if_true, if_false, true_and, and_true, neg1_nI, neg1_lt, neg1_neg, lt_neg1, eqN_F, eq_self,  h53, ht, h1, h2, h3, hh, e5, h4]
        · simp (disch := first | omega | assumption | exact gt_65 HM | fail) only [s196_0, s196_1, s196_2, s196_3, s196_5, s196_6, s196_9, s196_10, s196_11, s196_14, s196_15, s196_16, s196_19, s196_22, s196_23, s196_26, s196_27, s196_28, s196_31, s196_34, s196_35, s196_38, s196_39, s196_40, s196_43, s196_44, s196_45, s196_46, s196_49, s196_50, s196_53, s196_54, s196_55, s196_58, s196_59, s196_60, s196_61, s196_64, s196_65, s196_66, s196_69, s196_70, s196_71, s196_73, s196_75, s196_76, s196_79, s196_81, s196_84, s196_85, s196_86, s196_89, s196_92, s196_93, ai_103 HM, gr_65_52 HM, gt_65 HM, am196, isRf_ref, true_and, and_true, aPs_s, aPs_n, b01_0, b01_1, nI_clamp, ix_nI, inb_nI, lt_nI, eq_nI, nn_nI, eq0_nI, pk_mul, nI_add, lt_T, lt_F, if_true, if_false, true_and, and_true, neg1_nI, neg1_lt, neg1_neg, lt_neg1, eqN_F, eq_self,  h53, ht, h1, h2, h3, hh, e5, h4])
  simp (disch := first | omega | assumption | exact gt_65 HM | fail) only [s196_0, s196_1, s196_2, s196_3, s196_5, s196_6, s196_9, s196_10, s196_11, s196_14, s196_15, s196_16, s196_19, s196_22, s196_23, s196_26, s196_27, s196_28, s196_31, s196_34, s196_35, s196_38, s196_39, s196_40, s196_43, s196_44, s196_45, s196_46, s196_49, s196_50, s196_53, s196_54, s196_55, s196_58, s196_59, s196_60, s196_61, s196_64, s196_65, s196_66, s196_69, s196_70, s196_71, s196_73, s196_75, s196_76, s196_79, s196_81, s196_84, s196_85, s196_86, s196_89, s196_92, s196_93, ai_103 HM, gr_65_52 HM, gt_65 HM, am196, isRf_ref, true_and, and_true, aPs_s, aPs_n, b01_0, b01_1, nI_clamp, ix_nI, inb_nI, lt_nI, eq_nI, nn_nI, eq0_nI, pk_mul, nI_add, lt_T, lt_F, if_true, if_false, true_and, and_true, neg1_nI, neg1_lt, neg1_neg, lt_neg1, eqN_F, eq_self, ]
  exact loop 0 (Nat.zero_le _) _
theorem Fm_hH {T : Nat} {f : Nat → Nat} : Fm h (hH h T f) := Fm_trans (Fm_pA (o := 103) (by decide)) (Fm_pS (k := 53) (by omega))
/-- a PAIR by an ORDER -/
def aPr (P : Nat → Nat → Int32) (o : Nat → Nat) (ph : Nat) : Nat := pbR (tkA P o (nS P)) (hdA P o (nS P)) ph
theorem hH_hd {P : Nat → Nat → Int32} {o : Nat → Nat} : gI (hH h (tkA P o (nS P)) (hdA P o (nS P))) 65 53 = nI (tkA P o (nS P)) ∧ ∀ t, t < tkA P o (nS P) → gI (hH h (tkA P o (nS P)) (hdA P o (nS P))) 103 t = nI (hdA P o (nS P) t) := by
  unfold hH
  refine ⟨by rw [pI_def, gI_eq, upd_eq], fun t ht => ?_⟩
  rw [pI_def, gI_ne (by decide), gI_eq, pre_in ht]
set_option maxHeartbeats 4000000 in
theorem t197 (HM : KM h) {P : Nat → Nat → Int32} (hP : pv h = P) (V : okP P) {tl : Option (Nat → Nat)} (T : toH h P tl) {k : Int32} (hQ : ∀ h', Fm h h' → Q (some (.int (match plc k 401 with
    | none => -2
    | some ph => match oRD P tl with
      | none => -3
      | some o => nI (aPr P o ph)))) h') : aM (d + 4) 197 [.ref 65, .int k] h Q := by
  have hin : ∀ Q', aM (d + 3) 139 [.int k, .int (nI 0), .int (nI 400)] h Q' = Q' (some (.int (zB (plc k 401).isSome))) h := fun Q' => c139p (by decide) rfl
  rcases plc_cases k 401 (by omega) with ⟨ph, hph, rfl, e⟩ | ⟨e, _⟩ | ⟨e, _⟩
  · rw [e] at hQ
    simp (disch := first | omega | assumption | exact gt_65 HM | fail) only [s197_0, s197_1, s197_2, s197_5, s197_8, s197_11, s197_13, s197_15, s197_18, s197_21, s197_23, s197_24, s197_25, s197_28, s197_29, s197_30, s197_33, gt_65 HM, am197, isRf_ref, true_and, and_true, aPs_s, aPs_n, b01_0, b01_1, nI_clamp, ix_nI, inb_nI, lt_nI, eq_nI, nn_nI, eq0_nI, pk_mul, nI_add, lt_T, lt_F, if_true, if_false, true_and, and_true, neg1_nI, neg1_lt, neg1_neg, lt_neg1, eqN_F, eq_self,  hin, e, Bool.not_false, Bool.not_true, Bool.true_and, Bool.false_and, Bool.and_true, Bool.and_false, Bool.or_true, Bool.or_false, Bool.true_or, Bool.false_or, Bool.true_eq_false, Bool.false_eq_true, if_true, if_false, Option.isSome_some, Option.isSome_none, Option.isNone_some, Option.isNone_none, zB_t, zB_f, nI1_0, nI0_0]
    rw [s197_14]
    simp (disch := first | omega | assumption | exact gt_65 HM | fail) only [s197_0, s197_1, s197_2, s197_5, s197_8, s197_11, s197_13, s197_15, s197_18, s197_21, s197_23, s197_24, s197_25, s197_28, s197_29, s197_30, s197_33, gt_65 HM, am197, isRf_ref, true_and, and_true, aPs_s, aPs_n, b01_0, b01_1, nI_clamp, ix_nI, inb_nI, lt_nI, eq_nI, nn_nI, eq0_nI, pk_mul, nI_add, lt_T, lt_F, if_true, if_false, true_and, and_true, neg1_nI, neg1_lt, neg1_neg, lt_neg1, eqN_F, eq_self, ]
    refine c163q HM hP V T (fun h' F => ?_)
    have HM2 := Fm_KM F HM
    cases hq : oRD P tl with
    | none =>
      rw [hq] at hQ
      refine Or.inl ⟨rfl, ?_⟩
      simp (disch := first | omega | assumption | exact gt_65 HM2 | fail) only [s197_0, s197_1, s197_2, s197_5, s197_8, s197_11, s197_13, s197_15, s197_18, s197_21, s197_23, s197_24, s197_25, s197_28, s197_29, s197_30, s197_33, gt_65 HM2, am197, isRf_ref, true_and, and_true, aPs_s, aPs_n, b01_0, b01_1, nI_clamp, ix_nI, inb_nI, lt_nI, eq_nI, nn_nI, eq0_nI, pk_mul, nI_add, lt_T, lt_F, if_true, if_false, true_and, and_true, neg1_nI, neg1_lt, neg1_neg, lt_neg1, eqN_F, eq_self,  Bool.not_false, Bool.not_true, Bool.true_and, Bool.false_and, Bool.and_true, Bool.and_false, Bool.or_true, Bool.or_false, Bool.true_or, Bool.false_or, Bool.true_eq_false, Bool.false_eq_true, if_true, if_false, Option.isSome_some, Option.isSome_none, Option.isNone_some, Option.isNone_none, zB_t, zB_f, nI1_0, nI0_0]
      exact hQ _ F
    | some o =>
      rw [hq] at hQ
      refine Or.inr ⟨o, rfl, fun O => ?_⟩
      have HM3 : KM (hH h' (tkA P o (nS P)) (hdA P o (nS P))) := HM2
      have c195' : ∀ Q', aM (d + 3) 195 [.ref 65] h' Q' = Q' none (hH h' (tkA P o (nS P)) (hdA P o (nS P))) := fun Q' => c195 HM2 ((Fm_pv F).trans hP) V O
      have t65 := gt_65 HM3
      have c196' : ∀ Q', aM (d + 3) 196 [.ref 65, .int (nI ph)] (hH h' (tkA P o (nS P)) (hdA P o (nS P))) Q' = Q' (some (.int (nI (aPr P o ph)))) (hH h' (tkA P o (nS P)) (hdA P o (nS P))) := fun Q' => c196 HM3 tkA_le (by omega) hH_hd.1 hH_hd.2 (fun t => hdA_le V (fun k hk => (O.1 k hk).2) (Nat.le_refl _))
      simp (disch := first | omega | assumption | exact gt_65 HM2 | fail) only [s197_0, s197_1, s197_2, s197_5, s197_8, s197_11, s197_13, s197_15, s197_18, s197_21, s197_23, s197_24, s197_25, s197_28, s197_29, s197_30, s197_33, gt_65 HM2, am197, isRf_ref, true_and, and_true, aPs_s, aPs_n, b01_0, b01_1, nI_clamp, ix_nI, inb_nI, lt_nI, eq_nI, nn_nI, eq0_nI, pk_mul, nI_add, lt_T, lt_F, if_true, if_false, true_and, and_true, neg1_nI, neg1_lt, neg1_neg, lt_neg1, eqN_F, eq_self,  Bool.not_false, Bool.not_true, Bool.true_and, Bool.false_and, Bool.and_true, Bool.and_false, Bool.or_true, Bool.or_false, Bool.true_or, Bool.false_or, Bool.true_eq_false, Bool.false_eq_true, if_true, if_false, Option.isSome_some, Option.isSome_none, Option.isNone_some, Option.isNone_none, zB_t, zB_f, nI1_0, nI0_0, c195', c196', t65]
      exact hQ _ (Fm_trans F Fm_hH)
  · rw [e] at hQ
    simp (disch := first | omega | assumption | exact gt_65 HM | fail) only [s197_0, s197_1, s197_2, s197_5, s197_8, s197_11, s197_13, s197_15, s197_18, s197_21, s197_23, s197_24, s197_25, s197_28, s197_29, s197_30, s197_33, gt_65 HM, am197, isRf_ref, true_and, and_true, aPs_s, aPs_n, b01_0, b01_1, nI_clamp, ix_nI, inb_nI, lt_nI, eq_nI, nn_nI, eq0_nI, pk_mul, nI_add, lt_T, lt_F, if_true, if_false, true_and, and_true, neg1_nI, neg1_lt, neg1_neg, lt_neg1, eqN_F, eq_self,  hin, e, Bool.not_false, Bool.not_true, Bool.true_and, Bool.false_and, Bool.and_true, Bool.and_false, Bool.or_true, Bool.or_false, Bool.true_or, Bool.false_or, Bool.true_eq_false, Bool.false_eq_true, if_true, if_false, Option.isSome_some, Option.isSome_none, Option.isNone_some, Option.isNone_none, zB_t, zB_f, nI1_0, nI0_0]
    exact hQ _ Fm_refl
  · rw [e] at hQ
    simp (disch := first | omega | assumption | exact gt_65 HM | fail) only [s197_0, s197_1, s197_2, s197_5, s197_8, s197_11, s197_13, s197_15, s197_18, s197_21, s197_23, s197_24, s197_25, s197_28, s197_29, s197_30, s197_33, gt_65 HM, am197, isRf_ref, true_and, and_true, aPs_s, aPs_n, b01_0, b01_1, nI_clamp, ix_nI, inb_nI, lt_nI, eq_nI, nn_nI, eq0_nI, pk_mul, nI_add, lt_T, lt_F, if_true, if_false, true_and, and_true, neg1_nI, neg1_lt, neg1_neg, lt_neg1, eqN_F, eq_self,  hin, e, Bool.not_false, Bool.not_true, Bool.true_and, Bool.false_and, Bool.and_true, Bool.and_false, Bool.or_true, Bool.or_false, Bool.true_or, Bool.false_or, Bool.true_eq_false, Bool.false_eq_true, if_true, if_false, Option.isSome_some, Option.isSome_none, Option.isNone_some, Option.isNone_none, zB_t, zB_f, nI1_0, nI0_0]
    exact hQ _ Fm_refl
set_option maxHeartbeats 4000000 in
theorem c198_39 (HM : KM h) {T m : Nat} {hd : Nat → Nat} (hT : T ≤ 400) (hm : m ≤ 400) (h53 : gI h 65 53 = nI T) (hh : ∀ t, t < T → gI h 103 t = nI (hd t)) (hl : ∀ t, hd t ≤ 666468) {l5 : Value} : aW (d + 4) 198 39 [.ref 65, .int (nI m), .int (nI 0), .int (nI (pbR T hd 0)), .int (nI 1), l5] [] h Q = Q (some (.int (nI (bpF (pbR T hd) m).1))) h := by
  have hb : ∀ p, pbR T hd p ≤ 1332936 := fun p => pbM_le hl
  have loop := for_s (σ := Value) (F := fun p σ => aW (d + 4) 198 39 [.ref 65, .int (nI m), .int (nI (bpF (pbR T hd) p).1), .int (nI (bpF (pbR T hd) p).2), .int (nI (p + 1)), σ] [] h Q) (R := Q (some (.int (nI (bpF (pbR T hd) m).1))) h) m (fun σ => by
    have h1 : m < m + 1 := by omega
    rw [s198_39]
    simp (disch := first | omega | assumption | exact gt_65 HM | fail) only [s198_0, s198_1, s198_2, s198_5, s198_8, s198_11, s198_13, s198_14, s198_15, s198_18, s198_21, s198_23, s198_24, s198_25, s198_28, s198_29, s198_30, s198_31, s198_32, s198_35, s198_36, s198_37, s198_41, s198_42, s198_45, s198_46, s198_48, s198_51, s198_53, s198_55, s198_56, s198_59, s198_61, s198_64, s198_65, s198_66, s198_68, s198_69, s198_72, s198_74, s198_77, s198_78, s198_79, s198_82, s198_85, s198_86, gt_65 HM, am198, isRf_ref, true_and, and_true, aPs_s, aPs_n, b01_0, b01_1, nI_clamp, ix_nI, inb_nI, lt_nI, eq_nI, nn_nI, eq0_nI, pk_mul, nI_add, lt_T, lt_F, if_true, if_false, true_and, and_true, neg1_nI, neg1_lt, neg1_neg, lt_neg1, eqN_F, eq_self,  h1]) (fun p hp σ => by
    have h1 : ¬ m < p + 1 := by omega
    have b1 := bpF_le hb (m := p)
    have b2 := hb (p + 1)
    have c196' : ∀ Q', aM (d + 3) 196 [.ref 65, .int (nI (p + 1))] h Q' = Q' (some (.int (nI (pbR T hd (p + 1))))) h := fun Q' => c196 HM hT (by omega) h53 hh hl
    refine ⟨.int (nI (pbR T hd (p + 1))), ?_⟩
    rw [s198_39, bpF]
    by_cases h2 : pbR T hd (p + 1) < (bpF (pbR T hd) p).2
    · simp (disch := first | omega | assumption | exact gt_65 HM | fail) only [s198_0, s198_1, s198_2, s198_5, s198_8, s198_11, s198_13, s198_14, s198_15, s198_18, s198_21, s198_23, s198_24, s198_25, s198_28, s198_29, s198_30, s198_31, s198_32, s198_35, s198_36, s198_37, s198_41, s198_42, s198_45, s198_46, s198_48, s198_51, s198_53, s198_55, s198_56, s198_59, s198_61, s198_64, s198_65, s198_66, s198_68, s198_69, s198_72, s198_74, s198_77, s198_78, s198_79, s198_82, s198_85, s198_86, gt_65 HM, am198, isRf_ref, true_and, and_true, aPs_s, aPs_n, b01_0, b01_1, nI_clamp, ix_nI, inb_nI, lt_nI, eq_nI, nn_nI, eq0_nI, pk_mul, nI_add, lt_T, lt_F, if_true, if_false, true_and, and_true, neg1_nI, neg1_lt, neg1_neg, lt_neg1, eqN_F, eq_self,  h1, c196', h2]
    · simp (disch := first | omega | assumption | exact gt_65 HM | fail) only [s198_0, s198_1, s198_2, s198_5, s198_8, s198_11, s198_13, s198_14, s198_15, s198_18, s198_21, s198_23, s198_24, s198_25, s198_28, s198_29, s198_30, s198_31, s198_32, s198_35, s198_36, s198_37, s198_41, s198_42, s198_45, s198_46, s198_48, s198_51, s198_53, s198_55, s198_56, s198_59, s198_61, s198_64, s198_65, s198_66, s198_68, s198_69, s198_72, s198_74, s198_77, s198_78, s198_79, s198_82, s198_85, s198_86, gt_65 HM, am198, isRf_ref, true_and, and_true, aPs_s, aPs_n, b01_0, b01_1, nI_clamp, ix_nI, inb_nI, lt_nI, eq_nI, nn_nI, eq0_nI, pk_mul, nI_add, lt_T, lt_F, if_true, if_false, true_and, and_true, neg1_nI, neg1_lt, neg1_neg, lt_neg1, eqN_F, eq_self,  h1, c196', h2])
  exact loop 0 (Nat.zero_le _) _
set_option maxHeartbeats 4000000 in
theorem t198 (HM : KM h) {P : Nat → Nat → Int32} (hP : pv h = P) (V : okP P) {tl : Option (Nat → Nat)} (T : toH h P tl) {k : Int32} (hQ : ∀ h', Fm h h' → Q (some (.int (match plc k 401 with
    | none => -2
    | some m => match oRD P tl with
      | none => -3
      | some o => nI (bpF (aPr P o) m).1))) h') : aM (d + 4) 198 [.ref 65, .int k] h Q := by
  have hin : ∀ Q', aM (d + 3) 139 [.int k, .int (nI 0), .int (nI 400)] h Q' = Q' (some (.int (zB (plc k 401).isSome))) h := fun Q' => c139p (by decide) rfl
  rcases plc_cases k 401 (by omega) with ⟨ph, hph, rfl, e⟩ | ⟨e, _⟩ | ⟨e, _⟩
  · rw [e] at hQ
    simp (disch := first | omega | assumption | exact gt_65 HM | fail) only [s198_0, s198_1, s198_2, s198_5, s198_8, s198_11, s198_13, s198_15, s198_18, s198_21, s198_23, s198_24, s198_25, s198_28, s198_29, s198_30, s198_31, s198_32, s198_35, s198_36, s198_37, s198_41, s198_42, s198_45, s198_46, s198_48, s198_51, s198_53, s198_55, s198_56, s198_59, s198_61, s198_64, s198_65, s198_66, s198_68, s198_69, s198_72, s198_74, s198_77, s198_78, s198_79, s198_82, s198_85, s198_86, gt_65 HM, am198, isRf_ref, true_and, and_true, aPs_s, aPs_n, b01_0, b01_1, nI_clamp, ix_nI, inb_nI, lt_nI, eq_nI, nn_nI, eq0_nI, pk_mul, nI_add, lt_T, lt_F, if_true, if_false, true_and, and_true, neg1_nI, neg1_lt, neg1_neg, lt_neg1, eqN_F, eq_self,  hin, e, Bool.not_false, Bool.not_true, Bool.true_and, Bool.false_and, Bool.and_true, Bool.and_false, Bool.or_true, Bool.or_false, Bool.true_or, Bool.false_or, Bool.true_eq_false, Bool.false_eq_true, if_true, if_false, Option.isSome_some, Option.isSome_none, Option.isNone_some, Option.isNone_none, zB_t, zB_f, nI1_0, nI0_0]
    rw [s198_14]
    simp (disch := first | omega | assumption | exact gt_65 HM | fail) only [s198_0, s198_1, s198_2, s198_5, s198_8, s198_11, s198_13, s198_15, s198_18, s198_21, s198_23, s198_24, s198_25, s198_28, s198_29, s198_30, s198_31, s198_32, s198_35, s198_36, s198_37, s198_41, s198_42, s198_45, s198_46, s198_48, s198_51, s198_53, s198_55, s198_56, s198_59, s198_61, s198_64, s198_65, s198_66, s198_68, s198_69, s198_72, s198_74, s198_77, s198_78, s198_79, s198_82, s198_85, s198_86, gt_65 HM, am198, isRf_ref, true_and, and_true, aPs_s, aPs_n, b01_0, b01_1, nI_clamp, ix_nI, inb_nI, lt_nI, eq_nI, nn_nI, eq0_nI, pk_mul, nI_add, lt_T, lt_F, if_true, if_false, true_and, and_true, neg1_nI, neg1_lt, neg1_neg, lt_neg1, eqN_F, eq_self, ]
    refine c163q HM hP V T (fun h' F => ?_)
    have HM2 := Fm_KM F HM
    cases hq : oRD P tl with
    | none =>
      rw [hq] at hQ
      refine Or.inl ⟨rfl, ?_⟩
      simp (disch := first | omega | assumption | exact gt_65 HM2 | fail) only [s198_0, s198_1, s198_2, s198_5, s198_8, s198_11, s198_13, s198_15, s198_18, s198_21, s198_23, s198_24, s198_25, s198_28, s198_29, s198_30, s198_31, s198_32, s198_35, s198_36, s198_37, s198_41, s198_42, s198_45, s198_46, s198_48, s198_51, s198_53, s198_55, s198_56, s198_59, s198_61, s198_64, s198_65, s198_66, s198_68, s198_69, s198_72, s198_74, s198_77, s198_78, s198_79, s198_82, s198_85, s198_86, gt_65 HM2, am198, isRf_ref, true_and, and_true, aPs_s, aPs_n, b01_0, b01_1, nI_clamp, ix_nI, inb_nI, lt_nI, eq_nI, nn_nI, eq0_nI, pk_mul, nI_add, lt_T, lt_F, if_true, if_false, true_and, and_true, neg1_nI, neg1_lt, neg1_neg, lt_neg1, eqN_F, eq_self,  Bool.not_false, Bool.not_true, Bool.true_and, Bool.false_and, Bool.and_true, Bool.and_false, Bool.or_true, Bool.or_false, Bool.true_or, Bool.false_or, Bool.true_eq_false, Bool.false_eq_true, if_true, if_false, Option.isSome_some, Option.isSome_none, Option.isNone_some, Option.isNone_none, zB_t, zB_f, nI1_0, nI0_0]
      exact hQ _ F
    | some o =>
      rw [hq] at hQ
      refine Or.inr ⟨o, rfl, fun O => ?_⟩
      have HM3 : KM (hH h' (tkA P o (nS P)) (hdA P o (nS P))) := HM2
      have c195' : ∀ Q', aM (d + 3) 195 [.ref 65] h' Q' = Q' none (hH h' (tkA P o (nS P)) (hdA P o (nS P))) := fun Q' => c195 HM2 ((Fm_pv F).trans hP) V O
      have t65 := gt_65 HM3
      have hl2 : ∀ t, hdA P o (nS P) t ≤ 666468 := fun t => hdA_le V (fun k hk => (O.1 k hk).2) (Nat.le_refl _)
      have c196' : ∀ Q', aM (d + 3) 196 [.ref 65, .int (nI 0)] (hH h' (tkA P o (nS P)) (hdA P o (nS P))) Q' = Q' (some (.int (nI (pbR (tkA P o (nS P)) (hdA P o (nS P)) 0)))) (hH h' (tkA P o (nS P)) (hdA P o (nS P))) := fun Q' => c196 HM3 tkA_le (by omega) hH_hd.1 hH_hd.2 hl2
      simp (disch := first | omega | assumption | exact gt_65 HM2 | fail) only [s198_0, s198_1, s198_2, s198_5, s198_8, s198_11, s198_13, s198_15, s198_18, s198_21, s198_23, s198_24, s198_25, s198_28, s198_29, s198_30, s198_31, s198_32, s198_35, s198_36, s198_37, s198_41, s198_42, s198_45, s198_46, s198_48, s198_51, s198_53, s198_55, s198_56, s198_59, s198_61, s198_64, s198_65, s198_66, s198_68, s198_69, s198_72, s198_74, s198_77, s198_78, s198_79, s198_82, s198_85, s198_86, gt_65 HM2, am198, isRf_ref, true_and, and_true, aPs_s, aPs_n, b01_0, b01_1, nI_clamp, ix_nI, inb_nI, lt_nI, eq_nI, nn_nI, eq0_nI, pk_mul, nI_add, lt_T, lt_F, if_true, if_false, true_and, and_true, neg1_nI, neg1_lt, neg1_neg, lt_neg1, eqN_F, eq_self,  Bool.not_false, Bool.not_true, Bool.true_and, Bool.false_and, Bool.and_true, Bool.and_false, Bool.or_true, Bool.or_false, Bool.true_or, Bool.false_or, Bool.true_eq_false, Bool.false_eq_true, if_true, if_false, Option.isSome_some, Option.isSome_none, Option.isNone_some, Option.isNone_none, zB_t, zB_f, nI1_0, nI0_0, c195', c196', t65]
      rw [c198_39 HM3 tkA_le (by omega) hH_hd.1 hH_hd.2 hl2]
      exact hQ _ (Fm_trans F Fm_hH)
  · rw [e] at hQ
    simp (disch := first | omega | assumption | exact gt_65 HM | fail) only [s198_0, s198_1, s198_2, s198_5, s198_8, s198_11, s198_13, s198_15, s198_18, s198_21, s198_23, s198_24, s198_25, s198_28, s198_29, s198_30, s198_31, s198_32, s198_35, s198_36, s198_37, s198_41, s198_42, s198_45, s198_46, s198_48, s198_51, s198_53, s198_55, s198_56, s198_59, s198_61, s198_64, s198_65, s198_66, s198_68, s198_69, s198_72, s198_74, s198_77, s198_78, s198_79, s198_82, s198_85, s198_86, gt_65 HM, am198, isRf_ref, true_and, and_true, aPs_s, aPs_n, b01_0, b01_1, nI_clamp, ix_nI, inb_nI, lt_nI, eq_nI, nn_nI, eq0_nI, pk_mul, nI_add, lt_T, lt_F, if_true, if_false, true_and, and_true, neg1_nI, neg1_lt, neg1_neg, lt_neg1, eqN_F, eq_self,  hin, e, Bool.not_false, Bool.not_true, Bool.true_and, Bool.false_and, Bool.and_true, Bool.and_false, Bool.or_true, Bool.or_false, Bool.true_or, Bool.false_or, Bool.true_eq_false, Bool.false_eq_true, if_true, if_false, Option.isSome_some, Option.isSome_none, Option.isNone_some, Option.isNone_none, zB_t, zB_f, nI1_0, nI0_0]
    exact hQ _ Fm_refl
  · rw [e] at hQ
    simp (disch := first | omega | assumption | exact gt_65 HM | fail) only [s198_0, s198_1, s198_2, s198_5, s198_8, s198_11, s198_13, s198_15, s198_18, s198_21, s198_23, s198_24, s198_25, s198_28, s198_29, s198_30, s198_31, s198_32, s198_35, s198_36, s198_37, s198_41, s198_42, s198_45, s198_46, s198_48, s198_51, s198_53, s198_55, s198_56, s198_59, s198_61, s198_64, s198_65, s198_66, s198_68, s198_69, s198_72, s198_74, s198_77, s198_78, s198_79, s198_82, s198_85, s198_86, gt_65 HM, am198, isRf_ref, true_and, and_true, aPs_s, aPs_n, b01_0, b01_1, nI_clamp, ix_nI, inb_nI, lt_nI, eq_nI, nn_nI, eq0_nI, pk_mul, nI_add, lt_T, lt_F, if_true, if_false, true_and, and_true, neg1_nI, neg1_lt, neg1_neg, lt_neg1, eqN_F, eq_self,  hin, e, Bool.not_false, Bool.not_true, Bool.true_and, Bool.false_and, Bool.and_true, Bool.and_false, Bool.or_true, Bool.or_false, Bool.true_or, Bool.false_or, Bool.true_eq_false, Bool.false_eq_true, if_true, if_false, Option.isSome_some, Option.isSome_none, Option.isNone_some, Option.isNone_none, zB_t, zB_f, nI1_0, nI0_0]
    exact hQ _ Fm_refl
/-! THE REFERENCE: the rule -/
theorem t199 (HM : KM h) {k : Int32} : aM (d + 1) 199 [.ref 65, .int k] h Q = (if (plc k 3).isSome = true then Q (some (.int (gI h 65 34))) (pI h 65 34 k) else Q (some (.int (-2))) h) := by
  have hin := in_plc (k := k) (m := 2) (by decide)
  rcases Bool.eq_false_or_eq_true (plc k 3).isSome with g | g
  · simp (disch := first | omega | assumption | exact gt_65 HM | fail) only [s199_0, s199_1, s199_2, s199_3, s199_6, s199_9, s199_11, s199_12, s199_13, s199_16, s199_17, s199_18, s199_19, s199_22, s199_23, gt_65 HM, am199, isRf_ref, true_and, and_true, aPs_s, aPs_n, b01_0, b01_1, nI_clamp, ix_nI, inb_nI, lt_nI, eq_nI, nn_nI, eq0_nI, pk_mul, nI_add, lt_T, lt_F, if_true, if_false, true_and, and_true, neg1_nI, neg1_lt, neg1_neg, lt_neg1, eqN_F, eq_self,  c139, hin, g, Bool.not_false, Bool.not_true, Bool.true_and, Bool.false_and, Bool.and_true, Bool.and_false, Bool.or_true, Bool.or_false, Bool.true_or, Bool.false_or, Bool.true_eq_false, Bool.false_eq_true, if_true, if_false, Option.isSome_some, Option.isSome_none, Option.isNone_some, Option.isNone_none, zB_t, zB_f, nI1_0, nI0_0]
  · simp (disch := first | omega | assumption | exact gt_65 HM | fail) only [s199_0, s199_1, s199_2, s199_3, s199_6, s199_9, s199_11, s199_12, s199_13, s199_16, s199_17, s199_18, s199_19, s199_22, s199_23, gt_65 HM, am199, isRf_ref, true_and, and_true, aPs_s, aPs_n, b01_0, b01_1, nI_clamp, ix_nI, inb_nI, lt_nI, eq_nI, nn_nI, eq0_nI, pk_mul, nI_add, lt_T, lt_F, if_true, if_false, true_and, and_true, neg1_nI, neg1_lt, neg1_neg, lt_neg1, eqN_F, eq_self,  c139, hin, g, Bool.not_false, Bool.not_true, Bool.true_and, Bool.false_and, Bool.and_true, Bool.and_false, Bool.or_true, Bool.or_false, Bool.true_or, Bool.false_or, Bool.true_eq_false, Bool.false_eq_true, if_true, if_false, Option.isSome_some, Option.isSome_none, Option.isNone_some, Option.isNone_none, zB_t, zB_f, nI1_0, nI0_0]
end M24b
