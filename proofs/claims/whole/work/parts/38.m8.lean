/-! THE REFERENCE'S PROGRAM: LEAST PEAK, the row -/
def gdB (P : Nat → Nat → Int32) (m D s : Nat) : Bool := mRdy P s D && (match pkB P s D (mT P (D ||| 2 ^ s)) with
  | none => false
  | some x => decide (x ≤ m))
def mGs (P : Nat → Nat → Int32) (m D : Nat) : Option Nat := fst1 (gdB P m D) (nS P) 0
def grm (P : Nat → Nat → Int32) (m : Nat) : Nat → Nat
  | 0 => 0
  | k + 1 => match mGs P m (grm P m k) with
    | some s => grm P m k ||| 2 ^ s
    | none => grm P m k
def tld (P : Nat → Nat → Int32) (m k : Nat) : Nat := (mGs P m (grm P m k)).getD 0
def cntB (D : Nat) : Nat → Nat
  | 0 => 0
  | n + 1 => cntB D n + (if tb D n = true then 1 else 0)
theorem cntB_0 : ∀ {n : Nat}, cntB 0 n = 0 := by
  intro n
  induction n with
  | zero => rfl
  | succ n ih => rw [cntB, ih, tb_0]; rfl
theorem cntB_full {N : Nat} : ∀ {n : Nat}, n ≤ N → cntB (2 ^ N - 1) n = n := by
  intro n
  induction n with
  | zero => exact fun _ => rfl
  | succ n ih => intro h; rw [cntB, ih (by omega), tb_all, if_pos (decide_eq_true (show n < N from h))]
theorem cntB_or {D s : Nat} (hs : tb D s = false) : ∀ {n : Nat}, cntB (D ||| 2 ^ s) n = cntB D n + (if s < n then 1 else 0) := by
  intro n
  induction n with
  | zero => rfl
  | succ n ih =>
    rw [cntB, cntB, ih, tb_or]
    by_cases e : n = s
    · subst e
      rw [hs]
      simp
    · simp only [e, decide_false, Bool.or_false]
      by_cases h2 : s < n
      · rw [if_pos h2, if_pos (show s < n + 1 by omega)]; omega
      · rw [if_neg h2, if_neg (show ¬ s < n + 1 by omega)]; omega
theorem bsF_at {P : Nat → Nat → Int32} {T : Nat → Option Nat} {D : Nat} (hD : D ≠ 2 ^ nS P - 1) : ∀ {n x : Nat}, bsF P T D n = some x → ∃ s, s < n ∧ bsN P T s D = some x := by
  intro n
  induction n with
  | zero => intro x h; rw [bsF, if_neg hD] at h; cases h
  | succ n ih =>
    intro x h
    rw [bsF] at h
    cases hn : bsN P T n D with
    | none =>
      rw [hn] at h
      obtain ⟨s, h1, h2⟩ := ih h
      exact ⟨s, by omega, h2⟩
    | some y =>
      rw [hn] at h
      cases ha : bsF P T D n with
      | none =>
        rw [ha] at h
        cases h
        exact ⟨n, by omega, hn⟩
      | some m =>
        rw [ha] at h
        simp only [oMn] at h
        split at h
        · cases h; exact ⟨n, by omega, hn⟩
        · cases h
          obtain ⟨s, h1, h2⟩ := ih ha
          exact ⟨s, by omega, h2⟩
theorem pkB_ge {P : Nat → Nat → Int32} {s D x : Nat} {t : Option Nat} (h : pkB P s D t = some x) : ∃ r, t = some r ∧ r ≤ x := by
  cases t with
  | none => cases h
  | some r =>
    refine ⟨r, rfl, ?_⟩
    rw [pkB] at h
    cases h
    split <;> omega
theorem gdB_of {P : Nat → Nat → Int32} {m D s : Nat} (h : gdB P m D s = true) : mRdy P s D = true ∧ ∃ x, pkB P s D (mT P (D ||| 2 ^ s)) = some x ∧ x ≤ m := by
  obtain ⟨h1, h2⟩ := Bool.and_eq_true_iff.mp h
  refine ⟨h1, ?_⟩
  cases hp : pkB P s D (mT P (D ||| 2 ^ s)) with
  | none => rw [hp] at h2; cases h2
  | some x => rw [hp] at h2; exact ⟨x, rfl, by simpa using h2⟩
/-- behind a set from which one can go on within m there is a STEP within m -/
theorem mGs_ex {P : Nat → Nat → Int32} {m D x : Nat} (hD : D < 2 ^ nS P) (hf : D ≠ 2 ^ nS P - 1) (hx : mT P D = some x) (hm : x ≤ m) : ∃ s y, mGs P m D = some s ∧ s < nS P ∧ tb D s = false ∧ mT P (D ||| 2 ^ s) = some y ∧ y ≤ m := by
  rw [mT_eq hD] at hx
  obtain ⟨s, h1, h2⟩ := bsF_at hf hx
  have hg : gdB P m D s = true := by
    unfold bsN at h2
    split at h2
    · rename_i hr
      unfold gdB
      rw [hr, h2]
      simpa using hm
    · cases h2
  have hs := fst1_is (p := gdB P m D) (n := nS P) (Nat.zero_le s) (by omega) hg
  unfold mGs
  cases hq : fst1 (gdB P m D) (nS P) 0 with
  | none => rw [hq] at hs; cases hs
  | some t =>
    obtain ⟨_, a, b, _⟩ := fst1_lt hq
    obtain ⟨c, y, e, f⟩ := gdB_of b
    obtain ⟨r, g1, g2⟩ := pkB_ge e
    exact ⟨t, r, rfl, by omega, rdy_bit c, g1, by omega⟩
theorem grm_ok {P : Nat → Nat → Int32} {m : Nat} (hm : mT P 0 = some m) : ∀ {k : Nat}, k ≤ nS P → grm P m k < 2 ^ nS P ∧ cntB (grm P m k) (nS P) = k ∧ ∃ x, mT P (grm P m k) = some x ∧ x ≤ m := by
  intro k
  induction k with
  | zero => exact fun _ => ⟨Nat.two_pow_pos _, cntB_0, m, hm, Nat.le_refl _⟩
  | succ k ih =>
    intro hk
    obtain ⟨h1, h2, x, h3, h4⟩ := ih (by omega)
    have hf : grm P m k ≠ 2 ^ nS P - 1 := by
      intro e
      rw [e, cntB_full (Nat.le_refl _)] at h2
      omega
    obtain ⟨s, y, g1, g2, g3, g4, g5⟩ := mGs_ex h1 hf h3 h4
    have e : grm P m (k + 1) = grm P m k ||| 2 ^ s := by
      rw [grm, g1]
    rw [e]
    refine ⟨or_lt h1 g2, ?_, y, g4, g5⟩
    rw [cntB_or g3, if_pos g2, h2]
theorem grm_ex {P : Nat → Nat → Int32} {m k : Nat} (hm : mT P 0 = some m) (hk : k < nS P) : ∃ s, mGs P m (grm P m k) = some s ∧ s < nS P ∧ tld P m k = s ∧ grm P m (k + 1) = grm P m k ||| 2 ^ s := by
  obtain ⟨h1, h2, x, h3, h4⟩ := grm_ok hm (show k ≤ nS P by omega)
  have hf : grm P m k ≠ 2 ^ nS P - 1 := by
    intro e
    rw [e, cntB_full (Nat.le_refl _)] at h2
    omega
  obtain ⟨s, y, g1, g2, g3, g4, g5⟩ := mGs_ex h1 hf h3 h4
  exact ⟨s, g1, g2, by unfold tld; rw [g1]; rfl, by rw [grm, g1]⟩
section M8
variable {d : Nat} {h : abH} {Q : Option Value → abH → Prop}
set_option maxHeartbeats 4000000 in
theorem c179_222 (HM : KM h) {P : Nat → Nat → Int32} (hP : pv h = P) (V : okP P) {m D t : Nat} (hm : mT P 0 = some m) (hD : D < 2 ^ nS P) (ht : mGs P m D = some t) {l1 l2 l3 l6 : Value} : ∀ {s : Nat}, s ≤ t → aW (d + 4) 179 222 [.ref 65, l1, l2, l3, .int (nI D), .int (nI s), l6] [] (hB P h 0) Q = aW (d + 4) 179 268 [.ref 65, l1, l2, l3, .int (nI D), .int (nI t), l6] [] (hB P h 0) Q := by
  have s10 := V.s.1
  have hpw : 2 ^ nS P ≤ 1024 := Nat.pow_le_pow_right (by decide) s10 (n := 2)
  have hD1 : D < 1024 := by omega
  have HM2 : KM (hB P h 0) := HM
  have t65 := gt_65 HM2
  have hp2 : pv (hB P h 0) = P := by unfold hB; rw [pv_pA (by omega), hP]
  have hat : ∀ E, E < 2 ^ nS P → gI (hB P h 0) 100 E = oI (mT P E) := by
    intro E hE
    unfold hB
    rw [gI_eq, if_pos ⟨Nat.zero_le _, hE⟩]
  have h0 : gI (hB P h 0) 100 0 = nI m := by rw [hat 0 (Nat.two_pow_pos _), hm]; rfl
  have hml := mT_le V hm
  obtain ⟨_, ht2, ht3, ht4⟩ := fst1_lt ht
  intro s hs
  refine for_dn (F := fun s => aW (d + 4) 179 222 [.ref 65, l1, l2, l3, .int (nI D), .int (nI s), l6] [] (hB P h 0) Q) (R := fun _ => aW (d + 4) 179 268 [.ref 65, l1, l2, l3, .int (nI D), .int (nI t), l6] [] (hB P h 0) Q) t ?_ ?_ s hs
  · obtain ⟨hr, x, hx, hxm⟩ := gdB_of ht3
    have c162' : ∀ Q', aM (d + 3) 162 [.ref 65, .int (nI t), .int (nI D)] (hB P h 0) Q' = Q' (some (.int (zB (mRdy P t D)))) (hB P h 0) := fun Q' => c162 HM2 hp2 (by omega) hD1 V
    have c178' : ∀ Q', aM (d + 3) 178 [.ref 65, .int (nI t), .int (nI D)] (hB P h 0) Q' = Q' (some (.int (oI (pkB P t D (mT P (D ||| 2 ^ t)))))) (hB P h 0) := fun Q' => c178 HM2 hp2 V (by omega) hD1 hr (hat _ (or_lt hD (by omega))) (fun x hx => mT_le V hx)
    have hxl : ¬ m < x := by omega
    rw [s179_222]
    simp (disch := first | omega | assumption | exact gt_65 HM2 | fail) only [s179_0, s179_1, s179_3, s179_4, s179_7, s179_8, s179_9, s179_12, s179_15, s179_17, s179_18, s179_19, s179_20, s179_23, s179_24, s179_25, s179_26, s179_27, s179_28, s179_29, s179_30, s179_32, s179_34, s179_37, s179_38, s179_41, s179_43, s179_45, s179_46, s179_49, s179_50, s179_53, s179_54, s179_55, s179_56, s179_58, s179_60, s179_61, s179_64, s179_67, s179_68, s179_70, s179_72, s179_75, s179_78, s179_79, s179_81, s179_83, s179_86, s179_89, s179_90, s179_92, s179_93, s179_96, s179_98, s179_100, s179_101, s179_104, s179_105, s179_108, s179_110, s179_111, s179_112, s179_115, s179_117, s179_118, s179_121, s179_123, s179_124, s179_127, s179_129, s179_132, s179_133, s179_136, s179_138, s179_139, s179_140, s179_143, s179_146, s179_147, s179_148, s179_151, s179_153, s179_154, s179_155, s179_158, s179_159, s179_162, s179_163, s179_164, s179_165, s179_168, s179_171, s179_172, s179_175, s179_176, s179_177, s179_178, s179_181, s179_183, s179_184, s179_185, s179_188, s179_189, s179_190, s179_193, s179_194, s179_197, s179_198, s179_199, s179_202, s179_203, s179_204, s179_205, s179_207, s179_208, s179_210, s179_211, s179_213, s179_215, s179_216, s179_219, s179_220, s179_223, s179_225, s179_227, s179_230, s179_233, s179_234, s179_236, s179_238, s179_241, s179_242, s179_245, s179_246, s179_248, s179_250, s179_253, s179_254, s179_257, s179_258, s179_259, s179_262, s179_265, s179_270, s179_271, s179_273, s179_274, s179_275, s179_277, s179_280, s179_283, s179_285, ai_100 HM2, aj_100 HM2, gr_65_49 HM2, gt_65 HM2, am179, isRf_ref, true_and, and_true, aPs_s, aPs_n, b01_0, b01_1, nI_clamp, ix_nI, inb_nI, lt_nI, eq_nI, nn_nI, eq0_nI, pk_mul, nI_add, lt_T, lt_F, if_true, if_false, true_and, and_true, neg1_nI, neg1_lt, neg1_neg, lt_neg1, eqN_F, eq_self,  c162', c178', hr, Bool.not_false, Bool.not_true, Bool.true_and, Bool.false_and, Bool.and_true, Bool.and_false, Bool.or_true, Bool.or_false, Bool.true_or, Bool.false_or, Bool.true_eq_false, Bool.false_eq_true, if_true, if_false, Option.isSome_some, Option.isSome_none, Option.isNone_some, Option.isNone_none, zB_t, zB_f, nI1_0, nI0_0, hx, oI_s, h0, hxl]
  · intro s hst ih
    have hbad := ht4 s (Nat.zero_le _) hst
    have c162' : ∀ Q', aM (d + 3) 162 [.ref 65, .int (nI s), .int (nI D)] (hB P h 0) Q' = Q' (some (.int (zB (mRdy P s D)))) (hB P h 0) := fun Q' => c162 HM2 hp2 (by omega) hD1 V
    rw [s179_222]
    rcases Bool.eq_false_or_eq_true (mRdy P s D) with hr | hr
    · have c178' : ∀ Q', aM (d + 3) 178 [.ref 65, .int (nI s), .int (nI D)] (hB P h 0) Q' = Q' (some (.int (oI (pkB P s D (mT P (D ||| 2 ^ s)))))) (hB P h 0) := fun Q' => c178 HM2 hp2 V (by omega) hD1 hr (hat _ (or_lt hD (by omega))) (fun x hx => mT_le V hx)
      unfold gdB at hbad
      rw [hr] at hbad
      cases hx : pkB P s D (mT P (D ||| 2 ^ s)) with
      | none =>
        simp (disch := first | omega | assumption | exact gt_65 HM2 | fail) only [s179_0, s179_1, s179_3, s179_4, s179_7, s179_8, s179_9, s179_12, s179_15, s179_17, s179_18, s179_19, s179_20, s179_23, s179_24, s179_25, s179_26, s179_27, s179_28, s179_29, s179_30, s179_32, s179_34, s179_37, s179_38, s179_41, s179_43, s179_45, s179_46, s179_49, s179_50, s179_53, s179_54, s179_55, s179_56, s179_58, s179_60, s179_61, s179_64, s179_67, s179_68, s179_70, s179_72, s179_75, s179_78, s179_79, s179_81, s179_83, s179_86, s179_89, s179_90, s179_92, s179_93, s179_96, s179_98, s179_100, s179_101, s179_104, s179_105, s179_108, s179_110, s179_111, s179_112, s179_115, s179_117, s179_118, s179_121, s179_123, s179_124, s179_127, s179_129, s179_132, s179_133, s179_136, s179_138, s179_139, s179_140, s179_143, s179_146, s179_147, s179_148, s179_151, s179_153, s179_154, s179_155, s179_158, s179_159, s179_162, s179_163, s179_164, s179_165, s179_168, s179_171, s179_172, s179_175, s179_176, s179_177, s179_178, s179_181, s179_183, s179_184, s179_185, s179_188, s179_189, s179_190, s179_193, s179_194, s179_197, s179_198, s179_199, s179_202, s179_203, s179_204, s179_205, s179_207, s179_208, s179_210, s179_211, s179_213, s179_215, s179_216, s179_219, s179_220, s179_223, s179_225, s179_227, s179_230, s179_233, s179_234, s179_236, s179_238, s179_241, s179_242, s179_245, s179_246, s179_248, s179_250, s179_253, s179_254, s179_257, s179_258, s179_259, s179_262, s179_265, s179_270, s179_271, s179_273, s179_274, s179_275, s179_277, s179_280, s179_283, s179_285, ai_100 HM2, aj_100 HM2, gr_65_49 HM2, gt_65 HM2, am179, isRf_ref, true_and, and_true, aPs_s, aPs_n, b01_0, b01_1, nI_clamp, ix_nI, inb_nI, lt_nI, eq_nI, nn_nI, eq0_nI, pk_mul, nI_add, lt_T, lt_F, if_true, if_false, true_and, and_true, neg1_nI, neg1_lt, neg1_neg, lt_neg1, eqN_F, eq_self,  c162', c178', hr, Bool.not_false, Bool.not_true, Bool.true_and, Bool.false_and, Bool.and_true, Bool.and_false, Bool.or_true, Bool.or_false, Bool.true_or, Bool.false_or, Bool.true_eq_false, Bool.false_eq_true, if_true, if_false, Option.isSome_some, Option.isSome_none, Option.isNone_some, Option.isNone_none, zB_t, zB_f, nI1_0, nI0_0, hx, oI_n, ih]
      | some x =>
        have hxl := pkB_le V (show s < nS P by omega) (fun r hr => mT_le V hr) hx
        rw [hx] at hbad
        have hxm : m < x := by simpa using hbad
        simp (disch := first | omega | assumption | exact gt_65 HM2 | fail) only [s179_0, s179_1, s179_3, s179_4, s179_7, s179_8, s179_9, s179_12, s179_15, s179_17, s179_18, s179_19, s179_20, s179_23, s179_24, s179_25, s179_26, s179_27, s179_28, s179_29, s179_30, s179_32, s179_34, s179_37, s179_38, s179_41, s179_43, s179_45, s179_46, s179_49, s179_50, s179_53, s179_54, s179_55, s179_56, s179_58, s179_60, s179_61, s179_64, s179_67, s179_68, s179_70, s179_72, s179_75, s179_78, s179_79, s179_81, s179_83, s179_86, s179_89, s179_90, s179_92, s179_93, s179_96, s179_98, s179_100, s179_101, s179_104, s179_105, s179_108, s179_110, s179_111, s179_112, s179_115, s179_117, s179_118, s179_121, s179_123, s179_124, s179_127, s179_129, s179_132, s179_133, s179_136, s179_138, s179_139, s179_140, s179_143, s179_146, s179_147, s179_148, s179_151, s179_153, s179_154, s179_155, s179_158, s179_159, s179_162, s179_163, s179_164, s179_165, s179_168, s179_171, s179_172, s179_175, s179_176, s179_177, s179_178, s179_181, s179_183, s179_184, s179_185, s179_188, s179_189, s179_190, s179_193, s179_194, s179_197, s179_198, s179_199, s179_202, s179_203, s179_204, s179_205, s179_207, s179_208, s179_210, s179_211, s179_213, s179_215, s179_216, s179_219, s179_220, s179_223, s179_225, s179_227, s179_230, s179_233, s179_234, s179_236, s179_238, s179_241, s179_242, s179_245, s179_246, s179_248, s179_250, s179_253, s179_254, s179_257, s179_258, s179_259, s179_262, s179_265, s179_270, s179_271, s179_273, s179_274, s179_275, s179_277, s179_280, s179_283, s179_285, ai_100 HM2, aj_100 HM2, gr_65_49 HM2, gt_65 HM2, am179, isRf_ref, true_and, and_true, aPs_s, aPs_n, b01_0, b01_1, nI_clamp, ix_nI, inb_nI, lt_nI, eq_nI, nn_nI, eq0_nI, pk_mul, nI_add, lt_T, lt_F, if_true, if_false, true_and, and_true, neg1_nI, neg1_lt, neg1_neg, lt_neg1, eqN_F, eq_self,  c162', c178', hr, Bool.not_false, Bool.not_true, Bool.true_and, Bool.false_and, Bool.and_true, Bool.and_false, Bool.or_true, Bool.or_false, Bool.true_or, Bool.false_or, Bool.true_eq_false, Bool.false_eq_true, if_true, if_false, Option.isSome_some, Option.isSome_none, Option.isNone_some, Option.isNone_none, zB_t, zB_f, nI1_0, nI0_0, hx, oI_s, h0, hxm, ih]
    · simp (disch := first | omega | assumption | exact gt_65 HM2 | fail) only [s179_0, s179_1, s179_3, s179_4, s179_7, s179_8, s179_9, s179_12, s179_15, s179_17, s179_18, s179_19, s179_20, s179_23, s179_24, s179_25, s179_26, s179_27, s179_28, s179_29, s179_30, s179_32, s179_34, s179_37, s179_38, s179_41, s179_43, s179_45, s179_46, s179_49, s179_50, s179_53, s179_54, s179_55, s179_56, s179_58, s179_60, s179_61, s179_64, s179_67, s179_68, s179_70, s179_72, s179_75, s179_78, s179_79, s179_81, s179_83, s179_86, s179_89, s179_90, s179_92, s179_93, s179_96, s179_98, s179_100, s179_101, s179_104, s179_105, s179_108, s179_110, s179_111, s179_112, s179_115, s179_117, s179_118, s179_121, s179_123, s179_124, s179_127, s179_129, s179_132, s179_133, s179_136, s179_138, s179_139, s179_140, s179_143, s179_146, s179_147, s179_148, s179_151, s179_153, s179_154, s179_155, s179_158, s179_159, s179_162, s179_163, s179_164, s179_165, s179_168, s179_171, s179_172, s179_175, s179_176, s179_177, s179_178, s179_181, s179_183, s179_184, s179_185, s179_188, s179_189, s179_190, s179_193, s179_194, s179_197, s179_198, s179_199, s179_202, s179_203, s179_204, s179_205, s179_207, s179_208, s179_210, s179_211, s179_213, s179_215, s179_216, s179_219, s179_220, s179_223, s179_225, s179_227, s179_230, s179_233, s179_234, s179_236, s179_238, s179_241, s179_242, s179_245, s179_246, s179_248, s179_250, s179_253, s179_254, s179_257, s179_258, s179_259, s179_262, s179_265, s179_270, s179_271, s179_273, s179_274, s179_275, s179_277, s179_280, s179_283, s179_285, ai_100 HM2, aj_100 HM2, gr_65_49 HM2, gt_65 HM2, am179, isRf_ref, true_and, and_true, aPs_s, aPs_n, b01_0, b01_1, nI_clamp, ix_nI, inb_nI, lt_nI, eq_nI, nn_nI, eq0_nI, pk_mul, nI_add, lt_T, lt_F, if_true, if_false, true_and, and_true, neg1_nI, neg1_lt, neg1_neg, lt_neg1, eqN_F, eq_self,  c162', hr, Bool.not_false, Bool.not_true, Bool.true_and, Bool.false_and, Bool.and_true, Bool.and_false, Bool.or_true, Bool.or_false, Bool.true_or, Bool.false_or, Bool.true_eq_false, Bool.false_eq_true, if_true, if_false, Option.isSome_some, Option.isSome_none, Option.isNone_some, Option.isNone_none, zB_t, zB_f, nI1_0, nI0_0, ih]
set_option maxHeartbeats 4000000 in
theorem c179_213 (HM : KM h) {P : Nat → Nat → Int32} (hP : pv h = P) (V : okP P) {m i : Nat} (hm : mT P 0 = some m) (hi : i < nS P) {l2 l3 : Value} : aW (d + 4) 179 213 [.ref 65, .int (nI i), l2, l3, .int (nI 0), .int (nI 0), .int (nI 0)] [] (hB P h 0) Q = Q (some (.int (nI (tld P m i)))) (hB P h 0) := by
  have s10 := V.s.1
  refine for_ds (σ := Value) (F := fun k l5 => aW (d + 4) 179 213 [.ref 65, .int (nI i), l2, l3, .int (nI (grm P m k)), l5, .int (nI k)] [] (hB P h 0) Q) (R := fun _ => Q (some (.int (nI (tld P m i)))) (hB P h 0)) i (fun l5 => ?_) (fun k hk ih l5 => ?_) 0 (Nat.zero_le _) (.int (nI 0))
  · obtain ⟨s, g1, g2, g3, g4⟩ := grm_ex hm hi
    have hD := (grm_ok hm (show i ≤ nS P by omega)).1
    have HM2 : KM (hB P h 0) := HM
    rw [s179_213]
    simp (disch := first | omega | assumption | exact gt_65 HM2 | fail) only [s179_0, s179_1, s179_3, s179_4, s179_7, s179_8, s179_9, s179_12, s179_15, s179_17, s179_18, s179_19, s179_20, s179_23, s179_24, s179_25, s179_26, s179_27, s179_28, s179_29, s179_30, s179_32, s179_34, s179_37, s179_38, s179_41, s179_43, s179_45, s179_46, s179_49, s179_50, s179_53, s179_54, s179_55, s179_56, s179_58, s179_60, s179_61, s179_64, s179_67, s179_68, s179_70, s179_72, s179_75, s179_78, s179_79, s179_81, s179_83, s179_86, s179_89, s179_90, s179_92, s179_93, s179_96, s179_98, s179_100, s179_101, s179_104, s179_105, s179_108, s179_110, s179_111, s179_112, s179_115, s179_117, s179_118, s179_121, s179_123, s179_124, s179_127, s179_129, s179_132, s179_133, s179_136, s179_138, s179_139, s179_140, s179_143, s179_146, s179_147, s179_148, s179_151, s179_153, s179_154, s179_155, s179_158, s179_159, s179_162, s179_163, s179_164, s179_165, s179_168, s179_171, s179_172, s179_175, s179_176, s179_177, s179_178, s179_181, s179_183, s179_184, s179_185, s179_188, s179_189, s179_190, s179_193, s179_194, s179_197, s179_198, s179_199, s179_202, s179_203, s179_204, s179_205, s179_207, s179_208, s179_210, s179_211, s179_215, s179_216, s179_219, s179_220, s179_223, s179_225, s179_227, s179_230, s179_233, s179_234, s179_236, s179_238, s179_241, s179_242, s179_245, s179_246, s179_248, s179_250, s179_253, s179_254, s179_257, s179_258, s179_259, s179_262, s179_265, s179_270, s179_271, s179_273, s179_274, s179_275, s179_277, s179_280, s179_283, s179_285, ai_100 HM2, aj_100 HM2, gr_65_49 HM2, gt_65 HM2, am179, isRf_ref, true_and, and_true, aPs_s, aPs_n, b01_0, b01_1, nI_clamp, ix_nI, inb_nI, lt_nI, eq_nI, nn_nI, eq0_nI, pk_mul, nI_add, lt_T, lt_F, if_true, if_false, true_and, and_true, neg1_nI, neg1_lt, neg1_neg, lt_neg1, eqN_F, eq_self,  Nat.lt_irrefl]
    rw [c179_222 HM hP V hm hD g1 (Nat.zero_le _), s179_268]
    simp (disch := first | omega | assumption | exact gt_65 HM2 | fail) only [s179_0, s179_1, s179_3, s179_4, s179_7, s179_8, s179_9, s179_12, s179_15, s179_17, s179_18, s179_19, s179_20, s179_23, s179_24, s179_25, s179_26, s179_27, s179_28, s179_29, s179_30, s179_32, s179_34, s179_37, s179_38, s179_41, s179_43, s179_45, s179_46, s179_49, s179_50, s179_53, s179_54, s179_55, s179_56, s179_58, s179_60, s179_61, s179_64, s179_67, s179_68, s179_70, s179_72, s179_75, s179_78, s179_79, s179_81, s179_83, s179_86, s179_89, s179_90, s179_92, s179_93, s179_96, s179_98, s179_100, s179_101, s179_104, s179_105, s179_108, s179_110, s179_111, s179_112, s179_115, s179_117, s179_118, s179_121, s179_123, s179_124, s179_127, s179_129, s179_132, s179_133, s179_136, s179_138, s179_139, s179_140, s179_143, s179_146, s179_147, s179_148, s179_151, s179_153, s179_154, s179_155, s179_158, s179_159, s179_162, s179_163, s179_164, s179_165, s179_168, s179_171, s179_172, s179_175, s179_176, s179_177, s179_178, s179_181, s179_183, s179_184, s179_185, s179_188, s179_189, s179_190, s179_193, s179_194, s179_197, s179_198, s179_199, s179_202, s179_203, s179_204, s179_205, s179_207, s179_208, s179_210, s179_211, s179_215, s179_216, s179_219, s179_220, s179_223, s179_225, s179_227, s179_230, s179_233, s179_234, s179_236, s179_238, s179_241, s179_242, s179_245, s179_246, s179_248, s179_250, s179_253, s179_254, s179_257, s179_258, s179_259, s179_262, s179_265, s179_270, s179_271, s179_273, s179_274, s179_275, s179_277, s179_280, s179_283, s179_285, ai_100 HM2, aj_100 HM2, gr_65_49 HM2, gt_65 HM2, am179, isRf_ref, true_and, and_true, aPs_s, aPs_n, b01_0, b01_1, nI_clamp, ix_nI, inb_nI, lt_nI, eq_nI, nn_nI, eq0_nI, pk_mul, nI_add, lt_T, lt_F, if_true, if_false, true_and, and_true, neg1_nI, neg1_lt, neg1_neg, lt_neg1, eqN_F, eq_self,  nI_bit]
    rw [s179_213]
    simp (disch := first | omega | assumption | exact gt_65 HM2 | fail) only [s179_0, s179_1, s179_3, s179_4, s179_7, s179_8, s179_9, s179_12, s179_15, s179_17, s179_18, s179_19, s179_20, s179_23, s179_24, s179_25, s179_26, s179_27, s179_28, s179_29, s179_30, s179_32, s179_34, s179_37, s179_38, s179_41, s179_43, s179_45, s179_46, s179_49, s179_50, s179_53, s179_54, s179_55, s179_56, s179_58, s179_60, s179_61, s179_64, s179_67, s179_68, s179_70, s179_72, s179_75, s179_78, s179_79, s179_81, s179_83, s179_86, s179_89, s179_90, s179_92, s179_93, s179_96, s179_98, s179_100, s179_101, s179_104, s179_105, s179_108, s179_110, s179_111, s179_112, s179_115, s179_117, s179_118, s179_121, s179_123, s179_124, s179_127, s179_129, s179_132, s179_133, s179_136, s179_138, s179_139, s179_140, s179_143, s179_146, s179_147, s179_148, s179_151, s179_153, s179_154, s179_155, s179_158, s179_159, s179_162, s179_163, s179_164, s179_165, s179_168, s179_171, s179_172, s179_175, s179_176, s179_177, s179_178, s179_181, s179_183, s179_184, s179_185, s179_188, s179_189, s179_190, s179_193, s179_194, s179_197, s179_198, s179_199, s179_202, s179_203, s179_204, s179_205, s179_207, s179_208, s179_210, s179_211, s179_215, s179_216, s179_219, s179_220, s179_223, s179_225, s179_227, s179_230, s179_233, s179_234, s179_236, s179_238, s179_241, s179_242, s179_245, s179_246, s179_248, s179_250, s179_253, s179_254, s179_257, s179_258, s179_259, s179_262, s179_265, s179_270, s179_271, s179_273, s179_274, s179_275, s179_277, s179_280, s179_283, s179_285, ai_100 HM2, aj_100 HM2, gr_65_49 HM2, gt_65 HM2, am179, isRf_ref, true_and, and_true, aPs_s, aPs_n, b01_0, b01_1, nI_clamp, ix_nI, inb_nI, lt_nI, eq_nI, nn_nI, eq0_nI, pk_mul, nI_add, lt_T, lt_F, if_true, if_false, true_and, and_true, neg1_nI, neg1_lt, neg1_neg, lt_neg1, eqN_F, eq_self,  Nat.lt_succ_self, g3]
  · obtain ⟨s, g1, g2, g3, g4⟩ := grm_ex hm (show k < nS P by omega)
    have hD := (grm_ok hm (show k ≤ nS P by omega)).1
    have HM2 : KM (hB P h 0) := HM
    rw [s179_213]
    simp (disch := first | omega | assumption | exact gt_65 HM2 | fail) only [s179_0, s179_1, s179_3, s179_4, s179_7, s179_8, s179_9, s179_12, s179_15, s179_17, s179_18, s179_19, s179_20, s179_23, s179_24, s179_25, s179_26, s179_27, s179_28, s179_29, s179_30, s179_32, s179_34, s179_37, s179_38, s179_41, s179_43, s179_45, s179_46, s179_49, s179_50, s179_53, s179_54, s179_55, s179_56, s179_58, s179_60, s179_61, s179_64, s179_67, s179_68, s179_70, s179_72, s179_75, s179_78, s179_79, s179_81, s179_83, s179_86, s179_89, s179_90, s179_92, s179_93, s179_96, s179_98, s179_100, s179_101, s179_104, s179_105, s179_108, s179_110, s179_111, s179_112, s179_115, s179_117, s179_118, s179_121, s179_123, s179_124, s179_127, s179_129, s179_132, s179_133, s179_136, s179_138, s179_139, s179_140, s179_143, s179_146, s179_147, s179_148, s179_151, s179_153, s179_154, s179_155, s179_158, s179_159, s179_162, s179_163, s179_164, s179_165, s179_168, s179_171, s179_172, s179_175, s179_176, s179_177, s179_178, s179_181, s179_183, s179_184, s179_185, s179_188, s179_189, s179_190, s179_193, s179_194, s179_197, s179_198, s179_199, s179_202, s179_203, s179_204, s179_205, s179_207, s179_208, s179_210, s179_211, s179_215, s179_216, s179_219, s179_220, s179_223, s179_225, s179_227, s179_230, s179_233, s179_234, s179_236, s179_238, s179_241, s179_242, s179_245, s179_246, s179_248, s179_250, s179_253, s179_254, s179_257, s179_258, s179_259, s179_262, s179_265, s179_270, s179_271, s179_273, s179_274, s179_275, s179_277, s179_280, s179_283, s179_285, ai_100 HM2, aj_100 HM2, gr_65_49 HM2, gt_65 HM2, am179, isRf_ref, true_and, and_true, aPs_s, aPs_n, b01_0, b01_1, nI_clamp, ix_nI, inb_nI, lt_nI, eq_nI, nn_nI, eq0_nI, pk_mul, nI_add, lt_T, lt_F, if_true, if_false, true_and, and_true, neg1_nI, neg1_lt, neg1_neg, lt_neg1, eqN_F, eq_self, ]
    rw [c179_222 HM hP V hm hD g1 (Nat.zero_le _), s179_268]
    simp (disch := first | omega | assumption | exact gt_65 HM2 | fail) only [s179_0, s179_1, s179_3, s179_4, s179_7, s179_8, s179_9, s179_12, s179_15, s179_17, s179_18, s179_19, s179_20, s179_23, s179_24, s179_25, s179_26, s179_27, s179_28, s179_29, s179_30, s179_32, s179_34, s179_37, s179_38, s179_41, s179_43, s179_45, s179_46, s179_49, s179_50, s179_53, s179_54, s179_55, s179_56, s179_58, s179_60, s179_61, s179_64, s179_67, s179_68, s179_70, s179_72, s179_75, s179_78, s179_79, s179_81, s179_83, s179_86, s179_89, s179_90, s179_92, s179_93, s179_96, s179_98, s179_100, s179_101, s179_104, s179_105, s179_108, s179_110, s179_111, s179_112, s179_115, s179_117, s179_118, s179_121, s179_123, s179_124, s179_127, s179_129, s179_132, s179_133, s179_136, s179_138, s179_139, s179_140, s179_143, s179_146, s179_147, s179_148, s179_151, s179_153, s179_154, s179_155, s179_158, s179_159, s179_162, s179_163, s179_164, s179_165, s179_168, s179_171, s179_172, s179_175, s179_176, s179_177, s179_178, s179_181, s179_183, s179_184, s179_185, s179_188, s179_189, s179_190, s179_193, s179_194, s179_197, s179_198, s179_199, s179_202, s179_203, s179_204, s179_205, s179_207, s179_208, s179_210, s179_211, s179_215, s179_216, s179_219, s179_220, s179_223, s179_225, s179_227, s179_230, s179_233, s179_234, s179_236, s179_238, s179_241, s179_242, s179_245, s179_246, s179_248, s179_250, s179_253, s179_254, s179_257, s179_258, s179_259, s179_262, s179_265, s179_270, s179_271, s179_273, s179_274, s179_275, s179_277, s179_280, s179_283, s179_285, ai_100 HM2, aj_100 HM2, gr_65_49 HM2, gt_65 HM2, am179, isRf_ref, true_and, and_true, aPs_s, aPs_n, b01_0, b01_1, nI_clamp, ix_nI, inb_nI, lt_nI, eq_nI, nn_nI, eq0_nI, pk_mul, nI_add, lt_T, lt_F, if_true, if_false, true_and, and_true, neg1_nI, neg1_lt, neg1_neg, lt_neg1, eqN_F, eq_self,  nI_bit]
    rw [← g4]
    exact ih _
end M8
