/-! THE REFERENCE: go -/
theorem r1_cases (r : Int32) (m : Nat) (hm : m < 2 ^ 31) : (∃ j, 0 < j ∧ j ≤ m ∧ r = nI j ∧ decide (¬ r < nI 1 ∧ ¬ nI m < r) = true) ∨ decide (¬ r < nI 1 ∧ ¬ nI m < r) = false := by
  by_cases h : ¬ r < nI 1 ∧ ¬ nI m < r
  · refine Or.inl ?_
    have h0 : ¬ r < 0 := by
      intro h0
      apply h.1
      rw [Int32.lt_iff_toInt_lt] at h0 ⊢
      have e0 : (0 : Int32).toInt = 0 := by decide
      rw [nI_toInt (by decide)]
      omega
    obtain ⟨e1, e2⟩ := nI_nonneg h0
    have h1 := h.1
    have h2 := h.2
    rw [e1, lt_nI e2 (by decide)] at h1
    rw [e1, lt_nI hm e2] at h2
    exact ⟨r.toInt.toNat, by omega, by omega, e1, decide_eq_true h⟩
  · exact Or.inr (decide_eq_false h)
section M27
variable {d : Nat} {h : abH} {Q : Option Value → abH → Prop}
set_option maxHeartbeats 4000000 in
theorem c204 (HM : KM h) {P : Nat → Nat → Int32} (hP : pv h = P) (V : okP P) {o : Nat → Nat} (O : ovH h P o) {L : Nat → Option Nat} {rl hi p : Nat} (hp : p < nS P) (K : flK P L hi p) (hr : gI h 65 34 = nI rl) (hrl : rl < 3) : aM (d + 3) 204 [.ref 65] (flX 91 65 33 32 h L hi p) Q = Q none (flX 91 65 33 32 h (reL P o (stL P o rl L p) p) (stH P o rl L hi p) (p + 1)) := by
  have s10 := V.s.1
  have HM2 : KM (flX 91 65 33 32 h L hi p) := HM
  have e32 := flX_p (a := 91) (f := 65) (kh := 33) (kp := 32) (h := h) (L := L) (hi := hi) (p := p)
  have k3 := K.2.2
  unfold stH stL
  by_cases h0 : p = 0
  · subst h0
    have hl : LB P L 0 := fun b hb x hx => by rw [K.1 rfl b hb] at hx; cases hx
    have hB := gvF_le V (o := o) (rl := rl) hl (Nat.le_refl 12)
    simp (disch := first | omega | assumption | exact gt_65 HM2 | fail) only [s204_0, s204_1, s204_3, s204_5, s204_8, s204_9, s204_12, s204_15, s204_16, s204_19, s204_20, s204_21, s204_24, s204_25, s204_26, s204_29, s204_30, s204_33, s204_34, s204_37, s204_38, s204_39, s204_42, s204_43, s204_44, s204_47, s204_50, s204_53, s204_54, s204_57, s204_58, s204_61, s204_62, s204_63, s204_64, s204_65, s204_68, s204_71, s204_72, s204_73, s204_74, s204_77, s204_78, s204_79, s204_82, s204_83, s204_86, s204_87, s204_90, s204_91, s204_92, s204_95, s204_96, s204_97, s204_100, s204_103, s204_104, s204_107, s204_108, s204_111, s204_112, s204_113, s204_114, s204_117, s204_118, s204_119, s204_120, s204_121, s204_124, s204_125, s204_126, s204_127, s204_130, s204_131, s204_132, s204_135, s204_136, s204_137, s204_140, s204_141, s204_144, s204_145, s204_146, s204_149, s204_150, s204_151, s204_152, s204_153, s204_154, s204_157, s204_160, s204_161, s204_164, s204_165, s204_168, s204_171, s204_172, s204_174, s204_176, s204_178, s204_181, s204_182, s204_185, s204_187, s204_188, s204_191, s204_193, s204_194, s204_195, s204_198, s204_201, s204_202, s204_205, s204_206, s204_209, s204_211, s204_212, s204_213, s204_216, s204_219, s204_220, s204_221, s204_224, s204_225, s204_226, s204_229, ai_75 HM2, ai_91 HM2, ai_97 HM2, ai_99 HM2, aj_91 HM2, az_68 HM2, gr_65_12 HM2, gr_65_35 HM2, gr_65_46 HM2, gr_65_48 HM2, gr_65_5 HM2, gt_65 HM2, am204, isRf_ref, true_and, and_true, aPs_s, aPs_n, b01_0, b01_1, nI_clamp, ix_nI, inb_nI, lt_nI, eq_nI, nn_nI, eq0_nI, pk_mul, nI_add, lt_T, lt_F, if_true, if_false, true_and, and_true, neg1_nI, neg1_lt, neg1_neg, lt_neg1, eqN_F, eq_self, ]
    rw [c204_2 HM hP V O hl hr hrl, c204_53 HM hP V O hp hB (by omega) (by omega) hr hrl]
  · simp only [h0, if_false]
    simp (disch := first | omega | assumption | exact gt_65 HM2 | fail) only [s204_0, s204_1, s204_3, s204_5, s204_8, s204_9, s204_12, s204_15, s204_16, s204_19, s204_20, s204_21, s204_24, s204_25, s204_26, s204_29, s204_30, s204_33, s204_34, s204_37, s204_38, s204_39, s204_42, s204_43, s204_44, s204_47, s204_50, s204_53, s204_54, s204_57, s204_58, s204_61, s204_62, s204_63, s204_64, s204_65, s204_68, s204_71, s204_72, s204_73, s204_74, s204_77, s204_78, s204_79, s204_82, s204_83, s204_86, s204_87, s204_90, s204_91, s204_92, s204_95, s204_96, s204_97, s204_100, s204_103, s204_104, s204_107, s204_108, s204_111, s204_112, s204_113, s204_114, s204_117, s204_118, s204_119, s204_120, s204_121, s204_124, s204_125, s204_126, s204_127, s204_130, s204_131, s204_132, s204_135, s204_136, s204_137, s204_140, s204_141, s204_144, s204_145, s204_146, s204_149, s204_150, s204_151, s204_152, s204_153, s204_154, s204_157, s204_160, s204_161, s204_164, s204_165, s204_168, s204_171, s204_172, s204_174, s204_176, s204_178, s204_181, s204_182, s204_185, s204_187, s204_188, s204_191, s204_193, s204_194, s204_195, s204_198, s204_201, s204_202, s204_205, s204_206, s204_209, s204_211, s204_212, s204_213, s204_216, s204_219, s204_220, s204_221, s204_224, s204_225, s204_226, s204_229, ai_75 HM2, ai_91 HM2, ai_97 HM2, ai_99 HM2, aj_91 HM2, az_68 HM2, gr_65_12 HM2, gr_65_35 HM2, gr_65_46 HM2, gr_65_48 HM2, gr_65_5 HM2, gt_65 HM2, am204, isRf_ref, true_and, and_true, aPs_s, aPs_n, b01_0, b01_1, nI_clamp, ix_nI, inb_nI, lt_nI, eq_nI, nn_nI, eq0_nI, pk_mul, nI_add, lt_T, lt_F, if_true, if_false, true_and, and_true, neg1_nI, neg1_lt, neg1_neg, lt_neg1, eqN_F, eq_self, ]
    rw [s204_2]
    simp (disch := first | omega | assumption | exact gt_65 HM2 | fail) only [s204_0, s204_1, s204_3, s204_5, s204_8, s204_9, s204_12, s204_15, s204_16, s204_19, s204_20, s204_21, s204_24, s204_25, s204_26, s204_29, s204_30, s204_33, s204_34, s204_37, s204_38, s204_39, s204_42, s204_43, s204_44, s204_47, s204_50, s204_54, s204_57, s204_58, s204_61, s204_62, s204_63, s204_64, s204_65, s204_68, s204_71, s204_72, s204_73, s204_74, s204_77, s204_78, s204_79, s204_82, s204_83, s204_86, s204_87, s204_90, s204_91, s204_92, s204_95, s204_96, s204_97, s204_100, s204_103, s204_104, s204_107, s204_108, s204_111, s204_112, s204_113, s204_114, s204_117, s204_118, s204_119, s204_120, s204_121, s204_124, s204_125, s204_126, s204_127, s204_130, s204_131, s204_132, s204_135, s204_136, s204_137, s204_140, s204_141, s204_144, s204_145, s204_146, s204_149, s204_150, s204_151, s204_152, s204_153, s204_154, s204_157, s204_160, s204_161, s204_164, s204_165, s204_168, s204_171, s204_172, s204_174, s204_176, s204_178, s204_181, s204_182, s204_185, s204_187, s204_188, s204_191, s204_193, s204_194, s204_195, s204_198, s204_201, s204_202, s204_205, s204_206, s204_209, s204_211, s204_212, s204_213, s204_216, s204_219, s204_220, s204_221, s204_224, s204_225, s204_226, s204_229, ai_75 HM2, ai_91 HM2, ai_97 HM2, ai_99 HM2, aj_91 HM2, az_68 HM2, gr_65_12 HM2, gr_65_35 HM2, gr_65_46 HM2, gr_65_48 HM2, gr_65_5 HM2, gt_65 HM2, am204, isRf_ref, true_and, and_true, aPs_s, aPs_n, b01_0, b01_1, nI_clamp, ix_nI, inb_nI, lt_nI, eq_nI, nn_nI, eq0_nI, pk_mul, nI_add, lt_T, lt_F, if_true, if_false, true_and, and_true, neg1_nI, neg1_lt, neg1_neg, lt_neg1, eqN_F, eq_self,  e32, h0]
    rw [c204_53 HM hP V O hp K.2.1 (by omega) (by omega) hr hrl]
set_option maxHeartbeats 4000000 in
theorem c205_38 (HM : KM h) {P : Nat → Nat → Int32} (hP : pv h = P) (V : okP P) {o : Nat → Nat} (O : ovH h P o) {L : Nat → Option Nat} {rl hi p n : Nat} (hp : p + n ≤ nS P) (K : flK P L hi p) (hr : gI h 65 34 = nI rl) (hrl : rl < 3) : aW (d + 4) 205 38 [.ref 65, .int (nI n), .int (nI 0)] [] (flX 91 65 33 32 h L hi p) Q = Q (some (.int (nI (p + n)))) (flX 91 65 33 32 h (goF P o rl L hi p n).1 (goF P o rl L hi p n).2 (p + n)) := by
  have s10 := V.s.1
  have loop := for_0 (F := fun i => aW (d + 4) 205 38 [.ref 65, .int (nI n), .int (nI i)] [] (flX 91 65 33 32 h (goF P o rl L hi p i).1 (goF P o rl L hi p i).2 (p + i)) Q) (R := Q (some (.int (nI (p + n)))) (flX 91 65 33 32 h (goF P o rl L hi p n).1 (goF P o rl L hi p n).2 (p + n))) n (by
    have HM2 : KM (flX 91 65 33 32 h (goF P o rl L hi p n).1 (goF P o rl L hi p n).2 (p + n)) := HM
    have e32 := flX_p (a := 91) (f := 65) (kh := 33) (kp := 32) (h := h) (L := (goF P o rl L hi p n).1) (hi := (goF P o rl L hi p n).2) (p := p + n)
    rw [s205_38]
    simp (disch := first | omega | assumption | exact gt_65 HM2 | fail) only [s205_0, s205_1, s205_2, s205_4, s205_7, s205_10, s205_12, s205_13, s205_14, s205_17, s205_20, s205_21, s205_24, s205_25, s205_26, s205_27, s205_30, s205_33, s205_35, s205_36, s205_37, s205_39, s205_40, s205_43, s205_44, s205_47, s205_50, s205_53, s205_54, s205_57, gt_65 HM2, am205, isRf_ref, true_and, and_true, aPs_s, aPs_n, b01_0, b01_1, nI_clamp, ix_nI, inb_nI, lt_nI, eq_nI, nn_nI, eq0_nI, pk_mul, nI_add, lt_T, lt_F, if_true, if_false, true_and, and_true, neg1_nI, neg1_lt, neg1_neg, lt_neg1, eqN_F, eq_self,  Nat.lt_irrefl, e32]) (fun i hi2 => by
    have HM2 : KM (flX 91 65 33 32 h (goF P o rl L hi p i).1 (goF P o rl L hi p i).2 (p + i)) := HM
    have K2 := goF_ok V (rl := rl) (fun k hk => (O.1 k hk).2) K (n := i) (by omega)
    have c204' : ∀ Q', aM (d + 3) 204 [.ref 65] (flX 91 65 33 32 h (goF P o rl L hi p i).1 (goF P o rl L hi p i).2 (p + i)) Q' = Q' none (flX 91 65 33 32 h (goF P o rl L hi p (i + 1)).1 (goF P o rl L hi p (i + 1)).2 (p + (i + 1))) := by
      intro Q'
      rw [c204 HM hP V O (by omega) K2 hr hrl]
      rfl
    rw [s205_38]
    simp (disch := first | omega | assumption | exact gt_65 HM2 | fail) only [s205_0, s205_1, s205_2, s205_4, s205_7, s205_10, s205_12, s205_13, s205_14, s205_17, s205_20, s205_21, s205_24, s205_25, s205_26, s205_27, s205_30, s205_33, s205_35, s205_36, s205_37, s205_39, s205_40, s205_43, s205_44, s205_47, s205_50, s205_53, s205_54, s205_57, gt_65 HM2, am205, isRf_ref, true_and, and_true, aPs_s, aPs_n, b01_0, b01_1, nI_clamp, ix_nI, inb_nI, lt_nI, eq_nI, nn_nI, eq0_nI, pk_mul, nI_add, lt_T, lt_F, if_true, if_false, true_and, and_true, neg1_nI, neg1_lt, neg1_neg, lt_neg1, eqN_F, eq_self,  hi2, c204'])
  exact loop
set_option maxHeartbeats 4000000 in
theorem t205 (HM : KM h) {P : Nat → Nat → Int32} (hP : pv h = P) (V : okP P) {tl : Option (Nat → Nat)} (T : toH h P tl) {L : Nat → Option Nat} {rl hi p : Nat} (hL : ∀ b, b < 12 → gI h 91 b = oI (L b)) (h33 : gI h 65 33 = nI hi) (h32 : gI h 65 32 = nI p) (hpS : p ≤ 10) (K : flK P L hi p) (hr : gI h 65 34 = nI rl) (hrl : rl < 3) {k : Int32} (hQ1 : decide (¬ k < nI 1 ∧ ¬ nI 12 < k) = false → Q (some (.int (-2))) h) (hQ2 : ∀ n, 0 < n → n ≤ 12 → k = nI n → (oRD P tl = none ∨ nS P < p + n) → ∀ h', Fm h h' → Q (some (.int (-3))) h') (hQ3 : ∀ n o, 0 < n → n ≤ 12 → k = nI n → oRD P tl = some o → p + n ≤ nS P → ∀ h', Fm h h' → Q (some (.int (nI (p + n)))) (flX 91 65 33 32 h' (goF P o rl L hi p n).1 (goF P o rl L hi p n).2 (p + n))) : aM (d + 5) 205 [.ref 65, .int k] h Q := by
  have s10 := V.s.1
  rcases r1_cases k 12 (by decide) with ⟨n, n1, n2, rfl, e⟩ | e
  · have e : ∀ Q', aM (d + 4) 139 [.int (nI n), .int (nI 1), .int (nI 12)] h Q' = Q' (some (.int (zB true))) h := fun Q' => by rw [c139, e]
    simp (disch := first | omega | assumption | exact gt_65 HM | fail) only [s205_0, s205_1, s205_2, s205_4, s205_7, s205_10, s205_12, s205_14, s205_17, s205_20, s205_21, s205_24, s205_25, s205_26, s205_27, s205_30, s205_33, s205_35, s205_36, s205_37, s205_39, s205_40, s205_43, s205_44, s205_47, s205_50, s205_53, s205_54, s205_57, gt_65 HM, am205, isRf_ref, true_and, and_true, aPs_s, aPs_n, b01_0, b01_1, nI_clamp, ix_nI, inb_nI, lt_nI, eq_nI, nn_nI, eq0_nI, pk_mul, nI_add, lt_T, lt_F, if_true, if_false, true_and, and_true, neg1_nI, neg1_lt, neg1_neg, lt_neg1, eqN_F, eq_self,  e, Bool.not_false, Bool.not_true, Bool.true_and, Bool.false_and, Bool.and_true, Bool.and_false, Bool.or_true, Bool.or_false, Bool.true_or, Bool.false_or, Bool.true_eq_false, Bool.false_eq_true, if_true, if_false, Option.isSome_some, Option.isSome_none, Option.isNone_some, Option.isNone_none, zB_t, zB_f, nI1_0, nI0_0]
    rw [s205_13]
    simp (disch := first | omega | assumption | exact gt_65 HM | fail) only [s205_0, s205_1, s205_2, s205_4, s205_7, s205_10, s205_12, s205_13, s205_14, s205_17, s205_20, s205_21, s205_24, s205_25, s205_26, s205_27, s205_30, s205_33, s205_35, s205_36, s205_37, s205_39, s205_40, s205_43, s205_44, s205_47, s205_50, s205_53, s205_54, s205_57, gt_65 HM, am205, isRf_ref, true_and, and_true, aPs_s, aPs_n, b01_0, b01_1, nI_clamp, ix_nI, inb_nI, lt_nI, eq_nI, nn_nI, eq0_nI, pk_mul, nI_add, lt_T, lt_F, if_true, if_false, true_and, and_true, neg1_nI, neg1_lt, neg1_neg, lt_neg1, eqN_F, eq_self, ]
    refine c163q HM hP V T (fun h' F => ?_)
    have HM2 := Fm_KM F HM
    have hP2 := (Fm_pv F).trans hP
    cases hq : oRD P tl with
    | none =>
      refine Or.inl ⟨rfl, ?_⟩
      simp (disch := first | omega | assumption | exact gt_65 HM2 | fail) only [s205_0, s205_1, s205_2, s205_4, s205_7, s205_10, s205_12, s205_13, s205_14, s205_17, s205_20, s205_21, s205_24, s205_25, s205_26, s205_27, s205_30, s205_33, s205_35, s205_36, s205_37, s205_39, s205_40, s205_43, s205_44, s205_47, s205_50, s205_53, s205_54, s205_57, gt_65 HM2, am205, isRf_ref, true_and, and_true, aPs_s, aPs_n, b01_0, b01_1, nI_clamp, ix_nI, inb_nI, lt_nI, eq_nI, nn_nI, eq0_nI, pk_mul, nI_add, lt_T, lt_F, if_true, if_false, true_and, and_true, neg1_nI, neg1_lt, neg1_neg, lt_neg1, eqN_F, eq_self,  Bool.not_false, Bool.not_true, Bool.true_and, Bool.false_and, Bool.and_true, Bool.and_false, Bool.or_true, Bool.or_false, Bool.true_or, Bool.false_or, Bool.true_eq_false, Bool.false_eq_true, if_true, if_false, Option.isSome_some, Option.isSome_none, Option.isNone_some, Option.isNone_none, zB_t, zB_f, nI1_0, nI0_0]
      exact hQ2 n n1 n2 rfl (Or.inl hq) _ F
    | some o =>
      refine Or.inr ⟨o, rfl, fun O => ?_⟩
      have e32 : gI h' 65 32 = nI p := (F.2.2.2 32 (by decide) (by decide) (by decide)).trans h32
      have e33 : gI h' 65 33 = nI hi := (F.2.2.2 33 (by decide) (by decide) (by decide)).trans h33
      have e34 : gI h' 65 34 = nI rl := (F.2.2.2 34 (by decide) (by decide) (by decide)).trans hr
      have eL : ∀ b, b < 12 → gI h' 91 b = oI (L b) := fun b hb => by rw [F.2.2.1 91 (by decide) (by decide)]; exact hL b hb
      have e4 := hS hP2 V
      by_cases h1 : nS P < p + n
      · simp (disch := first | omega | assumption | exact gt_65 HM2 | fail) only [s205_0, s205_1, s205_2, s205_4, s205_7, s205_10, s205_12, s205_13, s205_14, s205_17, s205_20, s205_21, s205_24, s205_25, s205_26, s205_27, s205_30, s205_33, s205_35, s205_36, s205_37, s205_39, s205_40, s205_43, s205_44, s205_47, s205_50, s205_53, s205_54, s205_57, gt_65 HM2, am205, isRf_ref, true_and, and_true, aPs_s, aPs_n, b01_0, b01_1, nI_clamp, ix_nI, inb_nI, lt_nI, eq_nI, nn_nI, eq0_nI, pk_mul, nI_add, lt_T, lt_F, if_true, if_false, true_and, and_true, neg1_nI, neg1_lt, neg1_neg, lt_neg1, eqN_F, eq_self,  Bool.not_false, Bool.not_true, Bool.true_and, Bool.false_and, Bool.and_true, Bool.and_false, Bool.or_true, Bool.or_false, Bool.true_or, Bool.false_or, Bool.true_eq_false, Bool.false_eq_true, if_true, if_false, Option.isSome_some, Option.isSome_none, Option.isNone_some, Option.isNone_none, zB_t, zB_f, nI1_0, nI0_0, e32, e4, h1]
        exact hQ2 n n1 n2 rfl (Or.inr h1) _ F
      · simp (disch := first | omega | assumption | exact gt_65 HM2 | fail) only [s205_0, s205_1, s205_2, s205_4, s205_7, s205_10, s205_12, s205_13, s205_14, s205_17, s205_20, s205_21, s205_24, s205_25, s205_26, s205_27, s205_30, s205_33, s205_35, s205_36, s205_37, s205_39, s205_40, s205_43, s205_44, s205_47, s205_50, s205_53, s205_54, s205_57, gt_65 HM2, am205, isRf_ref, true_and, and_true, aPs_s, aPs_n, b01_0, b01_1, nI_clamp, ix_nI, inb_nI, lt_nI, eq_nI, nn_nI, eq0_nI, pk_mul, nI_add, lt_T, lt_F, if_true, if_false, true_and, and_true, neg1_nI, neg1_lt, neg1_neg, lt_neg1, eqN_F, eq_self,  Bool.not_false, Bool.not_true, Bool.true_and, Bool.false_and, Bool.and_true, Bool.and_false, Bool.or_true, Bool.or_false, Bool.true_or, Bool.false_or, Bool.true_eq_false, Bool.false_eq_true, if_true, if_false, Option.isSome_some, Option.isSome_none, Option.isNone_some, Option.isNone_none, zB_t, zB_f, nI1_0, nI0_0, e32, e4, h1]
        have q := c205_38 (d := d + 1) (Q := Q) HM2 hP2 V O (show p + n ≤ nS P by omega) K e34 hrl
        rw [flX_start eL e33 e32] at q
        rw [q]
        exact hQ3 n o n1 n2 rfl hq (by omega) _ F
  · simp (disch := first | omega | assumption | exact gt_65 HM | fail) only [s205_0, s205_1, s205_2, s205_4, s205_7, s205_10, s205_12, s205_14, s205_17, s205_20, s205_21, s205_24, s205_25, s205_26, s205_27, s205_30, s205_33, s205_35, s205_36, s205_37, s205_39, s205_40, s205_43, s205_44, s205_47, s205_50, s205_53, s205_54, s205_57, gt_65 HM, am205, isRf_ref, true_and, and_true, aPs_s, aPs_n, b01_0, b01_1, nI_clamp, ix_nI, inb_nI, lt_nI, eq_nI, nn_nI, eq0_nI, pk_mul, nI_add, lt_T, lt_F, if_true, if_false, true_and, and_true, neg1_nI, neg1_lt, neg1_neg, lt_neg1, eqN_F, eq_self,  c139, e, Bool.not_false, Bool.not_true, Bool.true_and, Bool.false_and, Bool.and_true, Bool.and_false, Bool.or_true, Bool.or_false, Bool.true_or, Bool.false_or, Bool.true_eq_false, Bool.false_eq_true, if_true, if_false, Option.isSome_some, Option.isSome_none, Option.isNone_some, Option.isNone_none, zB_t, zB_f, nI1_0, nI0_0]
    exact hQ1 e
end M27
/-! THE REFERENCE: moved DOWN -/
/-- the lowest one that isn't done -/
def lwC (D b y : Nat) (L : Nat → Option Nat) (acc : Option Nat) : Bool := !tb D b && (match acc with
  | none => true
  | some a => decide (y < (L a).getD 0))
def lwB (L : Nat → Option Nat) (D : Nat) : Nat → Option Nat
  | 0 => none
  | b + 1 => match L b with
    | none => lwB L D b
    | some y => if lwC D b y L (lwB L D b) = true then some b else lwB L D b
theorem lwB_ok {L : Nat → Option Nat} {D : Nat} : ∀ {n a : Nat}, lwB L D n = some a → a < n ∧ tb D a = false ∧ ∃ y, L a = some y := by
  intro n
  induction n with
  | zero => intro a e; cases e
  | succ n ih =>
    intro a e
    rw [lwB] at e
    cases hx : L n with
    | none =>
      rw [hx] at e
      obtain ⟨h1, h2, h3⟩ := ih e
      exact ⟨by omega, h2, h3⟩
    | some y =>
      rw [hx] at e
      simp only at e
      split at e
      · rename_i hb
        cases e
        unfold lwC at hb
        rw [Bool.and_eq_true] at hb
        refine ⟨by omega, ?_, y, hx⟩
        have := hb.1
        cases hq : tb D n with
        | true => rw [hq] at this; cases this
        | false => rfl
      · obtain ⟨h1, h2, h3⟩ := ih e
        exact ⟨by omega, h2, h3⟩
/-- what is moved: what lies, which ones are done, up to where, how many cells -/
def cpS (P : Nat → Nat → Int32) (s : (Nat → Option Nat) × Nat × Nat × Nat) : (Nat → Option Nat) × Nat × Nat × Nat := match lwB s.1 s.2.1 12 with
  | none => s
  | some b => (updL s.1 b (some s.2.2.1), s.2.1 ||| 2 ^ b, s.2.2.1 + zS P b, s.2.2.2 + (if (s.1 b == some s.2.2.1) = true then 0 else zS P b))
def cpF (P : Nat → Nat → Int32) (L : Nat → Option Nat) : Nat → (Nat → Option Nat) × Nat × Nat × Nat
  | 0 => (L, 0, 0, 0)
  | n + 1 => cpS P (cpF P L n)
theorem cpF_ok {P : Nat → Nat → Int32} (V : okP P) {L : Nat → Option Nat} {B : Nat} (hB : LB P L B) (hB2 : 470448 ≤ B) : ∀ {n : Nat}, n ≤ 12 → LB P (cpF P L n).1 B ∧ (cpF P L n).2.1 < 4096 ∧ (cpF P L n).2.2.1 ≤ 39204 * n ∧ (cpF P L n).2.2.2 ≤ 39204 * n := by
  intro n
  induction n with
  | zero => exact fun _ => ⟨hB, (by decide : (0 : Nat) < 4096), Nat.le_refl _, Nat.le_refl _⟩
  | succ n ih =>
    intro hn
    obtain ⟨h1, h2, h3, h4⟩ := ih (by omega)
    rw [cpF]
    unfold cpS
    cases hq : lwB (cpF P L n).1 (cpF P L n).2.1 12 with
    | none => exact ⟨h1, h2, by simp only; omega, by simp only; omega⟩
    | some b =>
      have hb := (lwB_ok hq).1
      have hz := (zS_ok V hb).2
      refine ⟨LB_upd h1 (fun x hx => by cases hx; omega), or_lt (n := 12) h2 hb, by simp only; omega, ?_⟩
      simp only
      split <;> omega
section M27b
variable {d : Nat} {h : abH} {Q : Option Value → abH → Prop}
/-- a heap in which a row of BUFFERS' places is another one -/
def laX (a : Nat) (h : abH) (L : Nat → Option Nat) : abH := pA h a (pre (fun b => oI (L b)) 12 (gI h a))
theorem laX_L {a : Nat} {L : Nat → Option Nat} {b : Nat} (hb : b < 12) : gI (laX a h L) a b = oI (L b) := by
  unfold laX
  rw [gI_eq, pre_in hb]
theorem laX_w {a : Nat} {L : Nat → Option Nat} {b : Nat} {v : Option Nat} {x : Int32} (hb : b < 12) (hx : x = oI v) : pI (laX a h L) a b x = laX a h (updL L b v) := by
  subst hx
  unfold laX
  simp only [pI_def, gI_eq, pA_pA, pre_updL hb]
theorem laX_start {a : Nat} {L : Nat → Option Nat} (hL : ∀ b, b < 12 → gI h a b = oI (L b)) : laX a h L = h := by
  unfold laX
  have e : pre (fun b => oI (L b)) 12 (gI h a) = gI h a := by
    funext j
    by_cases hj : j < 12
    · rw [pre_in hj, hL j hj]
    · rw [pre_out hj]
  rw [e, pA_self]
set_option maxHeartbeats 4000000 in
theorem c206_22 (HM : KM h) {P : Nat → Nat → Int32} {L : Nat → Option Nat} {B D : Nat} (hL : ∀ b, b < 12 → gI h 91 b = oI (L b)) (hB : LB P L B) (hB2 : B < 2 ^ 30) (hD : D < 4096) {l1 l2 l4 : Value} : aW (d + 1) 206 22 [.ref 65, l1, l2, .int (nI D), l4, .int (-1), .int (nI 0)] [] h Q = aW (d + 1) 206 96 [.ref 65, l1, l2, .int (nI D), l4, .int (oI (lwB L D 12)), .int (nI 12)] [] h Q := by
  have loop := for_0 (F := fun b => aW (d + 1) 206 22 [.ref 65, l1, l2, .int (nI D), l4, .int (oI (lwB L D b)), .int (nI b)] [] h Q) (R := aW (d + 1) 206 96 [.ref 65, l1, l2, .int (nI D), l4, .int (oI (lwB L D 12)), .int (nI 12)] [] h Q) 12 (by
    rw [s206_22]
    simp (disch := first | omega | assumption | exact gt_65 HM | fail) only [s206_0, s206_1, s206_2, s206_3, s206_4, s206_5, s206_6, s206_7, s206_9, s206_11, s206_13, s206_16, s206_17, s206_19, s206_20, s206_24, s206_26, s206_29, s206_30, s206_33, s206_35, s206_36, s206_37, s206_40, s206_41, s206_43, s206_44, s206_45, s206_46, s206_49, s206_51, s206_52, s206_55, s206_56, s206_59, s206_61, s206_62, s206_63, s206_66, s206_68, s206_71, s206_72, s206_75, s206_77, s206_78, s206_81, s206_83, s206_86, s206_88, s206_90, s206_93, s206_98, s206_99, s206_102, s206_103, s206_104, s206_106, s206_107, s206_108, s206_109, s206_110, s206_111, s206_114, s206_116, s206_117, s206_118, s206_121, s206_122, s206_124, s206_127, s206_130, s206_131, s206_132, s206_133, s206_134, s206_137, s206_139, s206_140, s206_141, s206_142, s206_143, s206_145, s206_148, s206_149, s206_150, s206_153, s206_156, s206_157, ai_91 HM, aj_91 HM, gr_65_35 HM, gt_65 HM, am206, isRf_ref, true_and, and_true, aPs_s, aPs_n, b01_0, b01_1, nI_clamp, ix_nI, inb_nI, lt_nI, eq_nI, nn_nI, eq0_nI, pk_mul, nI_add, lt_T, lt_F, if_true, if_false, true_and, and_true, neg1_nI, neg1_lt, neg1_neg, lt_neg1, eqN_F, eq_self,  Nat.lt_irrefl]) (fun b hb => by
    have hb2 := hL b hb
    rw [s206_22, lwB]
    cases hy : L b with
    | none =>
      rw [hy] at hb2
      simp (disch := first | omega | assumption | exact gt_65 HM | fail) only [s206_0, s206_1, s206_2, s206_3, s206_4, s206_5, s206_6, s206_7, s206_9, s206_11, s206_13, s206_16, s206_17, s206_19, s206_20, s206_24, s206_26, s206_29, s206_30, s206_33, s206_35, s206_36, s206_37, s206_40, s206_41, s206_43, s206_44, s206_45, s206_46, s206_49, s206_51, s206_52, s206_55, s206_56, s206_59, s206_61, s206_62, s206_63, s206_66, s206_68, s206_71, s206_72, s206_75, s206_77, s206_78, s206_81, s206_83, s206_86, s206_88, s206_90, s206_93, s206_98, s206_99, s206_102, s206_103, s206_104, s206_106, s206_107, s206_108, s206_109, s206_110, s206_111, s206_114, s206_116, s206_117, s206_118, s206_121, s206_122, s206_124, s206_127, s206_130, s206_131, s206_132, s206_133, s206_134, s206_137, s206_139, s206_140, s206_141, s206_142, s206_143, s206_145, s206_148, s206_149, s206_150, s206_153, s206_156, s206_157, ai_91 HM, aj_91 HM, gr_65_35 HM, gt_65 HM, am206, isRf_ref, true_and, and_true, aPs_s, aPs_n, b01_0, b01_1, nI_clamp, ix_nI, inb_nI, lt_nI, eq_nI, nn_nI, eq0_nI, pk_mul, nI_add, lt_T, lt_F, if_true, if_false, true_and, and_true, neg1_nI, neg1_lt, neg1_neg, lt_neg1, eqN_F, eq_self,  hb, hb2, oI_n]
    | some y =>
      rw [hy] at hb2
      have h1 := hB b hb y hy
      unfold lwC
      rcases Bool.eq_false_or_eq_true (tb D b) with g | g
      · simp (disch := first | omega | assumption | exact gt_65 HM | fail) only [s206_0, s206_1, s206_2, s206_3, s206_4, s206_5, s206_6, s206_7, s206_9, s206_11, s206_13, s206_16, s206_17, s206_19, s206_20, s206_24, s206_26, s206_29, s206_30, s206_33, s206_35, s206_36, s206_37, s206_40, s206_41, s206_43, s206_44, s206_45, s206_46, s206_49, s206_51, s206_52, s206_55, s206_56, s206_59, s206_61, s206_62, s206_63, s206_66, s206_68, s206_71, s206_72, s206_75, s206_77, s206_78, s206_81, s206_83, s206_86, s206_88, s206_90, s206_93, s206_98, s206_99, s206_102, s206_103, s206_104, s206_106, s206_107, s206_108, s206_109, s206_110, s206_111, s206_114, s206_116, s206_117, s206_118, s206_121, s206_122, s206_124, s206_127, s206_130, s206_131, s206_132, s206_133, s206_134, s206_137, s206_139, s206_140, s206_141, s206_142, s206_143, s206_145, s206_148, s206_149, s206_150, s206_153, s206_156, s206_157, ai_91 HM, aj_91 HM, gr_65_35 HM, gt_65 HM, am206, isRf_ref, true_and, and_true, aPs_s, aPs_n, b01_0, b01_1, nI_clamp, ix_nI, inb_nI, lt_nI, eq_nI, nn_nI, eq0_nI, pk_mul, nI_add, lt_T, lt_F, if_true, if_false, true_and, and_true, neg1_nI, neg1_lt, neg1_neg, lt_neg1, eqN_F, eq_self,  hb, hb2, oI_s, bit_0, g, Bool.not_false, Bool.not_true, Bool.true_and, Bool.false_and, Bool.and_true, Bool.and_false, Bool.or_true, Bool.or_false, Bool.true_or, Bool.false_or, Bool.true_eq_false, Bool.false_eq_true, if_true, if_false, Option.isSome_some, Option.isSome_none, Option.isNone_some, Option.isNone_none, zB_t, zB_f, nI1_0, nI0_0]
      · cases hq : lwB L D b with
        | none => simp (disch := first | omega | assumption | exact gt_65 HM | fail) only [s206_0, s206_1, s206_2, s206_3, s206_4, s206_5, s206_6, s206_7, s206_9, s206_11, s206_13, s206_16, s206_17, s206_19, s206_20, s206_24, s206_26, s206_29, s206_30, s206_33, s206_35, s206_36, s206_37, s206_40, s206_41, s206_43, s206_44, s206_45, s206_46, s206_49, s206_51, s206_52, s206_55, s206_56, s206_59, s206_61, s206_62, s206_63, s206_66, s206_68, s206_71, s206_72, s206_75, s206_77, s206_78, s206_81, s206_83, s206_86, s206_88, s206_90, s206_93, s206_98, s206_99, s206_102, s206_103, s206_104, s206_106, s206_107, s206_108, s206_109, s206_110, s206_111, s206_114, s206_116, s206_117, s206_118, s206_121, s206_122, s206_124, s206_127, s206_130, s206_131, s206_132, s206_133, s206_134, s206_137, s206_139, s206_140, s206_141, s206_142, s206_143, s206_145, s206_148, s206_149, s206_150, s206_153, s206_156, s206_157, ai_91 HM, aj_91 HM, gr_65_35 HM, gt_65 HM, am206, isRf_ref, true_and, and_true, aPs_s, aPs_n, b01_0, b01_1, nI_clamp, ix_nI, inb_nI, lt_nI, eq_nI, nn_nI, eq0_nI, pk_mul, nI_add, lt_T, lt_F, if_true, if_false, true_and, and_true, neg1_nI, neg1_lt, neg1_neg, lt_neg1, eqN_F, eq_self,  hb, hb2, oI_s, oI_n, bit_0, g, Bool.not_false, Bool.not_true, Bool.true_and, Bool.false_and, Bool.and_true, Bool.and_false, Bool.or_true, Bool.or_false, Bool.true_or, Bool.false_or, Bool.true_eq_false, Bool.false_eq_true, if_true, if_false, Option.isSome_some, Option.isSome_none, Option.isNone_some, Option.isNone_none, zB_t, zB_f, nI1_0, nI0_0]
        | some a =>
          obtain ⟨q1, q2, z, q3⟩ := lwB_ok hq
          have ha := hL a (by omega)
          rw [q3] at ha
          have h2 := hB a (by omega) z q3
          have ha12 : a < 12 := by omega
          by_cases h5 : y < z
          · simp (disch := first | omega | assumption | exact gt_65 HM | fail) only [s206_0, s206_1, s206_2, s206_3, s206_4, s206_5, s206_6, s206_7, s206_9, s206_11, s206_13, s206_16, s206_17, s206_19, s206_20, s206_24, s206_26, s206_29, s206_30, s206_33, s206_35, s206_36, s206_37, s206_40, s206_41, s206_43, s206_44, s206_45, s206_46, s206_49, s206_51, s206_52, s206_55, s206_56, s206_59, s206_61, s206_62, s206_63, s206_66, s206_68, s206_71, s206_72, s206_75, s206_77, s206_78, s206_81, s206_83, s206_86, s206_88, s206_90, s206_93, s206_98, s206_99, s206_102, s206_103, s206_104, s206_106, s206_107, s206_108, s206_109, s206_110, s206_111, s206_114, s206_116, s206_117, s206_118, s206_121, s206_122, s206_124, s206_127, s206_130, s206_131, s206_132, s206_133, s206_134, s206_137, s206_139, s206_140, s206_141, s206_142, s206_143, s206_145, s206_148, s206_149, s206_150, s206_153, s206_156, s206_157, ai_91 HM, aj_91 HM, gr_65_35 HM, gt_65 HM, am206, isRf_ref, true_and, and_true, aPs_s, aPs_n, b01_0, b01_1, nI_clamp, ix_nI, inb_nI, lt_nI, eq_nI, nn_nI, eq0_nI, pk_mul, nI_add, lt_T, lt_F, if_true, if_false, true_and, and_true, neg1_nI, neg1_lt, neg1_neg, lt_neg1, eqN_F, eq_self,  hb, hb2, oI_s, oI_n, bit_0, g, Bool.not_false, Bool.not_true, Bool.true_and, Bool.false_and, Bool.and_true, Bool.and_false, Bool.or_true, Bool.or_false, Bool.true_or, Bool.false_or, Bool.true_eq_false, Bool.false_eq_true, if_true, if_false, Option.isSome_some, Option.isSome_none, Option.isNone_some, Option.isNone_none, zB_t, zB_f, nI1_0, nI0_0, nn_nI, ha12, ha, q3, Option.getD_some, h5, decide_true]
          · simp (disch := first | omega | assumption | exact gt_65 HM | fail) only [s206_0, s206_1, s206_2, s206_3, s206_4, s206_5, s206_6, s206_7, s206_9, s206_11, s206_13, s206_16, s206_17, s206_19, s206_20, s206_24, s206_26, s206_29, s206_30, s206_33, s206_35, s206_36, s206_37, s206_40, s206_41, s206_43, s206_44, s206_45, s206_46, s206_49, s206_51, s206_52, s206_55, s206_56, s206_59, s206_61, s206_62, s206_63, s206_66, s206_68, s206_71, s206_72, s206_75, s206_77, s206_78, s206_81, s206_83, s206_86, s206_88, s206_90, s206_93, s206_98, s206_99, s206_102, s206_103, s206_104, s206_106, s206_107, s206_108, s206_109, s206_110, s206_111, s206_114, s206_116, s206_117, s206_118, s206_121, s206_122, s206_124, s206_127, s206_130, s206_131, s206_132, s206_133, s206_134, s206_137, s206_139, s206_140, s206_141, s206_142, s206_143, s206_145, s206_148, s206_149, s206_150, s206_153, s206_156, s206_157, ai_91 HM, aj_91 HM, gr_65_35 HM, gt_65 HM, am206, isRf_ref, true_and, and_true, aPs_s, aPs_n, b01_0, b01_1, nI_clamp, ix_nI, inb_nI, lt_nI, eq_nI, nn_nI, eq0_nI, pk_mul, nI_add, lt_T, lt_F, if_true, if_false, true_and, and_true, neg1_nI, neg1_lt, neg1_neg, lt_neg1, eqN_F, eq_self,  hb, hb2, oI_s, oI_n, bit_0, g, Bool.not_false, Bool.not_true, Bool.true_and, Bool.false_and, Bool.and_true, Bool.and_false, Bool.or_true, Bool.or_false, Bool.true_or, Bool.false_or, Bool.true_eq_false, Bool.false_eq_true, if_true, if_false, Option.isSome_some, Option.isSome_none, Option.isNone_some, Option.isNone_none, zB_t, zB_f, nI1_0, nI0_0, nn_nI, ha12, ha, q3, Option.getD_some, h5, decide_false])
  exact loop
set_option maxHeartbeats 4000000 in
theorem c206 (HM : KM h) {P : Nat → Nat → Int32} (hP : pv h = P) (V : okP P) {L : Nat → Option Nat} {B : Nat} (hL : ∀ b, b < 12 → gI h 91 b = oI (L b)) (hB : LB P L B) (hB2 : B < 2 ^ 30) (hB3 : 470448 ≤ B) : aM (d + 1) 206 [.ref 65] h Q = Q (some (.int (nI (cpF P L 12).2.2.2))) (laX 91 h (cpF P L 12).1) := by
  have loop := for_ds (σ := Value × Value) (F := fun n σ => aW (d + 1) 206 9 [.ref 65, .int (nI (cpF P L n).2.2.2), .int (nI (cpF P L n).2.2.1), .int (nI (cpF P L n).2.1), .int (nI n), σ.1, σ.2] [] (laX 91 h (cpF P L n).1) Q) (R := fun _ => Q (some (.int (nI (cpF P L 12).2.2.2))) (laX 91 h (cpF P L 12).1)) 12 (fun σ => by
    have HM2 : KM (laX 91 h (cpF P L 12).1) := HM
    rw [s206_9]
    simp (disch := first | omega | assumption | exact gt_65 HM2 | fail) only [s206_0, s206_1, s206_2, s206_3, s206_4, s206_5, s206_6, s206_7, s206_11, s206_13, s206_16, s206_17, s206_19, s206_20, s206_24, s206_26, s206_29, s206_30, s206_33, s206_35, s206_36, s206_37, s206_40, s206_41, s206_43, s206_44, s206_45, s206_46, s206_49, s206_51, s206_52, s206_55, s206_56, s206_59, s206_61, s206_62, s206_63, s206_66, s206_68, s206_71, s206_72, s206_75, s206_77, s206_78, s206_81, s206_83, s206_86, s206_88, s206_90, s206_93, s206_98, s206_99, s206_102, s206_103, s206_104, s206_106, s206_107, s206_108, s206_109, s206_110, s206_111, s206_114, s206_116, s206_117, s206_118, s206_121, s206_122, s206_124, s206_127, s206_130, s206_131, s206_132, s206_133, s206_134, s206_137, s206_139, s206_140, s206_141, s206_142, s206_143, s206_145, s206_148, s206_149, s206_150, s206_153, s206_156, s206_157, ai_91 HM2, aj_91 HM2, gr_65_35 HM2, gt_65 HM2, am206, isRf_ref, true_and, and_true, aPs_s, aPs_n, b01_0, b01_1, nI_clamp, ix_nI, inb_nI, lt_nI, eq_nI, nn_nI, eq0_nI, pk_mul, nI_add, lt_T, lt_F, if_true, if_false, true_and, and_true, neg1_nI, neg1_lt, neg1_neg, lt_neg1, eqN_F, eq_self,  Nat.lt_irrefl]) (fun n hn ih σ => by
    obtain ⟨h1, h2, h3, h4⟩ := cpF_ok V hB hB3 (n := n) (by omega)
    have HM2 : KM (laX 91 h (cpF P L n).1) := HM
    have hP2 : pv (laX 91 h (cpF P L n).1) = P := by unfold laX; rw [pv_pA (by omega)]; exact hP
    have eL : ∀ b, b < 12 → gI (laX 91 h (cpF P L n).1) 91 b = oI ((cpF P L n).1 b) := fun b hb => laX_L hb
    rw [s206_9]
    simp (disch := first | omega | assumption | exact gt_65 HM2 | fail) only [s206_0, s206_1, s206_2, s206_3, s206_4, s206_5, s206_6, s206_7, s206_11, s206_13, s206_16, s206_17, s206_19, s206_20, s206_24, s206_26, s206_29, s206_30, s206_33, s206_35, s206_36, s206_37, s206_40, s206_41, s206_43, s206_44, s206_45, s206_46, s206_49, s206_51, s206_52, s206_55, s206_56, s206_59, s206_61, s206_62, s206_63, s206_66, s206_68, s206_71, s206_72, s206_75, s206_77, s206_78, s206_81, s206_83, s206_86, s206_88, s206_90, s206_93, s206_96, s206_98, s206_99, s206_102, s206_103, s206_104, s206_106, s206_107, s206_108, s206_109, s206_110, s206_111, s206_114, s206_116, s206_117, s206_118, s206_121, s206_122, s206_124, s206_127, s206_130, s206_131, s206_132, s206_133, s206_134, s206_137, s206_139, s206_140, s206_141, s206_142, s206_143, s206_145, s206_148, s206_149, s206_150, s206_153, s206_156, s206_157, ai_91 HM2, aj_91 HM2, gr_65_35 HM2, gt_65 HM2, am206, isRf_ref, true_and, and_true, aPs_s, aPs_n, b01_0, b01_1, nI_clamp, ix_nI, inb_nI, lt_nI, eq_nI, nn_nI, eq0_nI, pk_mul, nI_add, lt_T, lt_F, if_true, if_false, true_and, and_true, neg1_nI, neg1_lt, neg1_neg, lt_neg1, eqN_F, eq_self,  hn]
    rw [c206_22 HM2 eL h1 hB2 h2, s206_96]
    rw [cpF] at ih
    unfold cpS at ih
    cases hq : lwB (cpF P L n).1 (cpF P L n).2.1 12 with
    | none =>
      rw [hq] at ih
      simp (disch := first | omega | assumption | exact gt_65 HM2 | fail) only [s206_0, s206_1, s206_2, s206_3, s206_4, s206_5, s206_6, s206_7, s206_11, s206_13, s206_16, s206_17, s206_19, s206_20, s206_24, s206_26, s206_29, s206_30, s206_33, s206_35, s206_36, s206_37, s206_40, s206_41, s206_43, s206_44, s206_45, s206_46, s206_49, s206_51, s206_52, s206_55, s206_56, s206_59, s206_61, s206_62, s206_63, s206_66, s206_68, s206_71, s206_72, s206_75, s206_77, s206_78, s206_81, s206_83, s206_86, s206_88, s206_90, s206_93, s206_96, s206_98, s206_99, s206_102, s206_103, s206_104, s206_106, s206_107, s206_108, s206_109, s206_110, s206_111, s206_114, s206_116, s206_117, s206_118, s206_121, s206_122, s206_124, s206_127, s206_130, s206_131, s206_132, s206_133, s206_134, s206_137, s206_139, s206_140, s206_141, s206_142, s206_143, s206_145, s206_148, s206_149, s206_150, s206_153, s206_156, s206_157, ai_91 HM2, aj_91 HM2, gr_65_35 HM2, gt_65 HM2, am206, isRf_ref, true_and, and_true, aPs_s, aPs_n, b01_0, b01_1, nI_clamp, ix_nI, inb_nI, lt_nI, eq_nI, nn_nI, eq0_nI, pk_mul, nI_add, lt_T, lt_F, if_true, if_false, true_and, and_true, neg1_nI, neg1_lt, neg1_neg, lt_neg1, eqN_F, eq_self,  oI_n]
      exact ih (.int (-1), .int (nI 12))
    | some b =>
      rw [hq] at ih
      obtain ⟨hb, _, y, hy⟩ := lwB_ok hq
      have hz := (zS_ok V hb).2
      have hy2 := h1 b hb y hy
      have eb := eL b hb
      rw [hy] at eb
      have ew := laX_w (h := h) (a := 91) (L := (cpF P L n).1) (b := b) (v := some (cpF P L n).2.2.1) (x := nI (cpF P L n).2.2.1) hb rfl
      have HM3 : KM (laX 91 h (updL (cpF P L n).1 b (some (cpF P L n).2.2.1))) := HM
      have hP3 : pv (laX 91 h (updL (cpF P L n).1 b (some (cpF P L n).2.2.1))) = P := by unfold laX; rw [pv_pA (by omega)]; exact hP
      have c154' : ∀ Q', aM d 154 [.ref 65, .int (nI b)] (laX 91 h (cpF P L n).1) Q' = Q' (some (.int (nI (zS P b)))) (laX 91 h (cpF P L n).1) := fun Q' => c154n HM2 hP2 hb V
      have c154'' : ∀ Q', aM d 154 [.ref 65, .int (nI b)] (laX 91 h (updL (cpF P L n).1 b (some (cpF P L n).2.2.1))) Q' = Q' (some (.int (nI (zS P b)))) (laX 91 h (updL (cpF P L n).1 b (some (cpF P L n).2.2.1))) := fun Q' => c154n HM3 hP3 hb V
      have t65 := gt_65 HM3
      have ihb := ih (.int (nI b), .int (nI 12))
      by_cases h5 : y = (cpF P L n).2.2.1
      · have e5 : ((cpF P L n).1 b == some (cpF P L n).2.2.1) = true := by rw [hy, h5]; exact beq_self_eq_true _
        simp only [e5, if_true, Nat.add_zero] at ihb
        simp (disch := first | omega | assumption | exact gt_65 HM2 | fail) only [s206_0, s206_1, s206_2, s206_3, s206_4, s206_5, s206_6, s206_7, s206_11, s206_13, s206_16, s206_17, s206_19, s206_20, s206_24, s206_26, s206_29, s206_30, s206_33, s206_35, s206_36, s206_37, s206_40, s206_41, s206_43, s206_44, s206_45, s206_46, s206_49, s206_51, s206_52, s206_55, s206_56, s206_59, s206_61, s206_62, s206_63, s206_66, s206_68, s206_71, s206_72, s206_75, s206_77, s206_78, s206_81, s206_83, s206_86, s206_88, s206_90, s206_93, s206_96, s206_98, s206_99, s206_102, s206_103, s206_104, s206_106, s206_107, s206_108, s206_109, s206_110, s206_111, s206_114, s206_116, s206_117, s206_118, s206_121, s206_122, s206_124, s206_127, s206_130, s206_131, s206_132, s206_133, s206_134, s206_137, s206_139, s206_140, s206_141, s206_142, s206_143, s206_145, s206_148, s206_149, s206_150, s206_153, s206_156, s206_157, ai_91 HM2, aj_91 HM2, gr_65_35 HM2, gt_65 HM2, am206, isRf_ref, true_and, and_true, aPs_s, aPs_n, b01_0, b01_1, nI_clamp, ix_nI, inb_nI, lt_nI, eq_nI, nn_nI, eq0_nI, pk_mul, nI_add, lt_T, lt_F, if_true, if_false, true_and, and_true, neg1_nI, neg1_lt, neg1_neg, lt_neg1, eqN_F, eq_self,  oI_s, nI_bit, eb, h5, c154', ew, c154'', t65, Nat.add_zero, ihb]
      · have e5 : ((cpF P L n).1 b == some (cpF P L n).2.2.1) = false := by rw [hy]; simpa using h5
        simp only [e5, if_false, Bool.false_eq_true] at ihb
        simp (disch := first | omega | assumption | exact gt_65 HM2 | fail) only [s206_0, s206_1, s206_2, s206_3, s206_4, s206_5, s206_6, s206_7, s206_11, s206_13, s206_16, s206_17, s206_19, s206_20, s206_24, s206_26, s206_29, s206_30, s206_33, s206_35, s206_36, s206_37, s206_40, s206_41, s206_43, s206_44, s206_45, s206_46, s206_49, s206_51, s206_52, s206_55, s206_56, s206_59, s206_61, s206_62, s206_63, s206_66, s206_68, s206_71, s206_72, s206_75, s206_77, s206_78, s206_81, s206_83, s206_86, s206_88, s206_90, s206_93, s206_96, s206_98, s206_99, s206_102, s206_103, s206_104, s206_106, s206_107, s206_108, s206_109, s206_110, s206_111, s206_114, s206_116, s206_117, s206_118, s206_121, s206_122, s206_124, s206_127, s206_130, s206_131, s206_132, s206_133, s206_134, s206_137, s206_139, s206_140, s206_141, s206_142, s206_143, s206_145, s206_148, s206_149, s206_150, s206_153, s206_156, s206_157, ai_91 HM2, aj_91 HM2, gr_65_35 HM2, gt_65 HM2, am206, isRf_ref, true_and, and_true, aPs_s, aPs_n, b01_0, b01_1, nI_clamp, ix_nI, inb_nI, lt_nI, eq_nI, nn_nI, eq0_nI, pk_mul, nI_add, lt_T, lt_F, if_true, if_false, true_and, and_true, neg1_nI, neg1_lt, neg1_neg, lt_neg1, eqN_F, eq_self,  oI_s, nI_bit, eb, h5, c154', ew, c154'', t65, ihb])
  have l0 := loop 0 (Nat.zero_le _) (.retAddr 0, .retAddr 0)
  rw [show (cpF P L 0).1 = L from rfl, laX_start hL] at l0
  simp (disch := first | omega | assumption | exact gt_65 HM | fail) only [s206_0, s206_1, s206_2, s206_3, s206_4, s206_5, s206_6, s206_7, s206_11, s206_13, s206_16, s206_17, s206_19, s206_20, s206_22, s206_24, s206_26, s206_29, s206_30, s206_33, s206_35, s206_36, s206_37, s206_40, s206_41, s206_43, s206_44, s206_45, s206_46, s206_49, s206_51, s206_52, s206_55, s206_56, s206_59, s206_61, s206_62, s206_63, s206_66, s206_68, s206_71, s206_72, s206_75, s206_77, s206_78, s206_81, s206_83, s206_86, s206_88, s206_90, s206_93, s206_96, s206_98, s206_99, s206_102, s206_103, s206_104, s206_106, s206_107, s206_108, s206_109, s206_110, s206_111, s206_114, s206_116, s206_117, s206_118, s206_121, s206_122, s206_124, s206_127, s206_130, s206_131, s206_132, s206_133, s206_134, s206_137, s206_139, s206_140, s206_141, s206_142, s206_143, s206_145, s206_148, s206_149, s206_150, s206_153, s206_156, s206_157, ai_91 HM, aj_91 HM, gr_65_35 HM, gt_65 HM, am206, isRf_ref, true_and, and_true, aPs_s, aPs_n, b01_0, b01_1, nI_clamp, ix_nI, inb_nI, lt_nI, eq_nI, nn_nI, eq0_nI, pk_mul, nI_add, lt_T, lt_F, if_true, if_false, true_and, and_true, neg1_nI, neg1_lt, neg1_neg, lt_neg1, eqN_F, eq_self, ]
  exact l0
/-! THE REFERENCE: roomTold, holder, again, image, back, count -/
set_option maxHeartbeats 4000000 in
theorem c207 (HM : KM h) {P : Nat → Nat → Int32} (hP : pv h = P) (V : okP P) {L : Nat → Option Nat} {B : Nat} (hL : ∀ b, b < 12 → gI h 91 b = oI (L b)) (hB : LB P L B) (hB2 : B < 2 ^ 30) {w k : Int32} : aM (d + 2) 207 [.ref 65, .int w, .int k] h Q = Q (some (.int (match plc w 5 with
    | none => -7
    | some 0 => gI h 65 32
    | some 1 => gI h 65 33
    | some 2 => nI (tpF P L 12)
    | some 3 => match bf P k with
      | none => -5
      | some b => oI (L b)
    | some _ => gI h 65 34))) h := by
  have c200' : ∀ Q', aM (d + 1) 200 [.ref 65] h Q' = Q' (some (.int (nI (tpF P L 12)))) h := fun Q' => c200 HM hP V hL hB hB2
  have c153' : ∀ Q', aM (d + 1) 153 [.ref 65, .int k] h Q' = Q' (some (.int (zB (bf P k).isSome))) h := fun Q' => c153 HM hP
  rcases plc_cases w 5 (by omega) with ⟨j, hj, rfl, e⟩ | ⟨e, e1, e2⟩ | ⟨e, e1, e2, e3, e4⟩
  · rcases (show j = 0 ∨ j = 1 ∨ j = 2 ∨ j = 3 ∨ j = 4 by omega) with rfl | rfl | rfl | rfl | rfl
    · simp (disch := first | omega | assumption | exact gt_65 HM | fail) only [s207_0, s207_1, s207_36, s207_37, s207_40, s207_41, s207_42, s207_45, s207_46, s207_47, s207_50, s207_51, s207_52, s207_53, s207_56, s207_59, s207_60, s207_63, s207_64, s207_65, s207_68, s207_70, s207_71, s207_72, s207_75, s207_76, s207_78, ai_91 HM, gr_65_35 HM, gt_65 HM, am207, isRf_ref, true_and, and_true, aPs_s, aPs_n, b01_0, b01_1, nI_clamp, ix_nI, inb_nI, lt_nI, eq_nI, nn_nI, eq0_nI, pk_mul, nI_add, lt_T, lt_F, if_true, if_false, true_and, and_true, neg1_nI, neg1_lt, neg1_neg, lt_neg1, eqN_F, eq_self,  e]
    · simp (disch := first | omega | assumption | exact gt_65 HM | fail) only [s207_0, s207_1, s207_36, s207_37, s207_40, s207_41, s207_42, s207_45, s207_46, s207_47, s207_50, s207_51, s207_52, s207_53, s207_56, s207_59, s207_60, s207_63, s207_64, s207_65, s207_68, s207_70, s207_71, s207_72, s207_75, s207_76, s207_78, ai_91 HM, gr_65_35 HM, gt_65 HM, am207, isRf_ref, true_and, and_true, aPs_s, aPs_n, b01_0, b01_1, nI_clamp, ix_nI, inb_nI, lt_nI, eq_nI, nn_nI, eq0_nI, pk_mul, nI_add, lt_T, lt_F, if_true, if_false, true_and, and_true, neg1_nI, neg1_lt, neg1_neg, lt_neg1, eqN_F, eq_self,  e]
    · simp (disch := first | omega | assumption | exact gt_65 HM | fail) only [s207_0, s207_1, s207_36, s207_37, s207_40, s207_41, s207_42, s207_45, s207_46, s207_47, s207_50, s207_51, s207_52, s207_53, s207_56, s207_59, s207_60, s207_63, s207_64, s207_65, s207_68, s207_70, s207_71, s207_72, s207_75, s207_76, s207_78, ai_91 HM, gr_65_35 HM, gt_65 HM, am207, isRf_ref, true_and, and_true, aPs_s, aPs_n, b01_0, b01_1, nI_clamp, ix_nI, inb_nI, lt_nI, eq_nI, nn_nI, eq0_nI, pk_mul, nI_add, lt_T, lt_F, if_true, if_false, true_and, and_true, neg1_nI, neg1_lt, neg1_neg, lt_neg1, eqN_F, eq_self,  e, c200']
    · rcases bf_cases P k with ⟨b, hb, rfl, eb, h68⟩ | eb
      · have hb2 := hL b hb
        simp (disch := first | omega | assumption | exact gt_65 HM | fail) only [s207_0, s207_1, s207_36, s207_37, s207_40, s207_41, s207_42, s207_45, s207_46, s207_47, s207_50, s207_51, s207_52, s207_53, s207_56, s207_59, s207_60, s207_63, s207_64, s207_65, s207_68, s207_70, s207_71, s207_72, s207_75, s207_76, s207_78, ai_91 HM, gr_65_35 HM, gt_65 HM, am207, isRf_ref, true_and, and_true, aPs_s, aPs_n, b01_0, b01_1, nI_clamp, ix_nI, inb_nI, lt_nI, eq_nI, nn_nI, eq0_nI, pk_mul, nI_add, lt_T, lt_F, if_true, if_false, true_and, and_true, neg1_nI, neg1_lt, neg1_neg, lt_neg1, eqN_F, eq_self,  e, c153', eb, Bool.not_false, Bool.not_true, Bool.true_and, Bool.false_and, Bool.and_true, Bool.and_false, Bool.or_true, Bool.or_false, Bool.true_or, Bool.false_or, Bool.true_eq_false, Bool.false_eq_true, if_true, if_false, Option.isSome_some, Option.isSome_none, Option.isNone_some, Option.isNone_none, zB_t, zB_f, nI1_0, nI0_0, hb2]
      · simp (disch := first | omega | assumption | exact gt_65 HM | fail) only [s207_0, s207_1, s207_36, s207_37, s207_40, s207_41, s207_42, s207_45, s207_46, s207_47, s207_50, s207_51, s207_52, s207_53, s207_56, s207_59, s207_60, s207_63, s207_64, s207_65, s207_68, s207_70, s207_71, s207_72, s207_75, s207_76, s207_78, ai_91 HM, gr_65_35 HM, gt_65 HM, am207, isRf_ref, true_and, and_true, aPs_s, aPs_n, b01_0, b01_1, nI_clamp, ix_nI, inb_nI, lt_nI, eq_nI, nn_nI, eq0_nI, pk_mul, nI_add, lt_T, lt_F, if_true, if_false, true_and, and_true, neg1_nI, neg1_lt, neg1_neg, lt_neg1, eqN_F, eq_self,  e, c153', eb, Bool.not_false, Bool.not_true, Bool.true_and, Bool.false_and, Bool.and_true, Bool.and_false, Bool.or_true, Bool.or_false, Bool.true_or, Bool.false_or, Bool.true_eq_false, Bool.false_eq_true, if_true, if_false, Option.isSome_some, Option.isSome_none, Option.isNone_some, Option.isNone_none, zB_t, zB_f, nI1_0, nI0_0]
    · simp (disch := first | omega | assumption | exact gt_65 HM | fail) only [s207_0, s207_1, s207_36, s207_37, s207_40, s207_41, s207_42, s207_45, s207_46, s207_47, s207_50, s207_51, s207_52, s207_53, s207_56, s207_59, s207_60, s207_63, s207_64, s207_65, s207_68, s207_70, s207_71, s207_72, s207_75, s207_76, s207_78, ai_91 HM, gr_65_35 HM, gt_65 HM, am207, isRf_ref, true_and, and_true, aPs_s, aPs_n, b01_0, b01_1, nI_clamp, ix_nI, inb_nI, lt_nI, eq_nI, nn_nI, eq0_nI, pk_mul, nI_add, lt_T, lt_F, if_true, if_false, true_and, and_true, neg1_nI, neg1_lt, neg1_neg, lt_neg1, eqN_F, eq_self,  e]
  · have hne := fun j (hj : j < 5) => plc_ne e hj (by omega)
    have n0 := hne 0 (by omega)
    have n1 := hne 1 (by omega)
    have n2 := hne 2 (by omega)
    have n3 := hne 3 (by omega)
    have n4 := hne 4 (by omega)
    simp (disch := first | omega | assumption | exact gt_65 HM | fail) only [s207_0, s207_1, s207_36, s207_37, s207_40, s207_41, s207_42, s207_45, s207_46, s207_47, s207_50, s207_51, s207_52, s207_53, s207_56, s207_59, s207_60, s207_63, s207_64, s207_65, s207_68, s207_70, s207_71, s207_72, s207_75, s207_76, s207_78, ai_91 HM, gr_65_35 HM, gt_65 HM, am207, isRf_ref, true_and, and_true, aPs_s, aPs_n, b01_0, b01_1, nI_clamp, ix_nI, inb_nI, lt_nI, eq_nI, nn_nI, eq0_nI, pk_mul, nI_add, lt_T, lt_F, if_true, if_false, true_and, and_true, neg1_nI, neg1_lt, neg1_neg, lt_neg1, eqN_F, eq_self,  e, n0, n1, n2, n3, n4]
  · have hne := fun j (hj : j < 5) => plc_ne e hj (by omega)
    have n0 := hne 0 (by omega)
    have n1 := hne 1 (by omega)
    have n2 := hne 2 (by omega)
    have n3 := hne 3 (by omega)
    have n4 := hne 4 (by omega)
    simp (disch := first | omega | assumption | exact gt_65 HM | fail) only [s207_0, s207_1, s207_36, s207_37, s207_40, s207_41, s207_42, s207_45, s207_46, s207_47, s207_50, s207_51, s207_52, s207_53, s207_56, s207_59, s207_60, s207_63, s207_64, s207_65, s207_68, s207_70, s207_71, s207_72, s207_75, s207_76, s207_78, ai_91 HM, gr_65_35 HM, gt_65 HM, am207, isRf_ref, true_and, and_true, aPs_s, aPs_n, b01_0, b01_1, nI_clamp, ix_nI, inb_nI, lt_nI, eq_nI, nn_nI, eq0_nI, pk_mul, nI_add, lt_T, lt_F, if_true, if_false, true_and, and_true, neg1_nI, neg1_lt, neg1_neg, lt_neg1, eqN_F, eq_self,  e, n0, n1, n2, n3, n4]
end M27b
