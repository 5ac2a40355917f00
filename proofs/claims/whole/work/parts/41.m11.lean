/-! THE REFERENCE: order -/
/-- the set of STEPS behind k numbers of a row, if they go -/
def oCk (P : Nat → Nat → Int32) (c : Nat → Int32) : Nat → Option Nat
  | 0 => some 0
  | k + 1 => match oCk P c k with
    | none => none
    | some D => match plc (c k) (nS P) with
      | none => none
      | some v => if mRdy P v D = true then some (D ||| 2 ^ v) else none
theorem oCk_lt {P : Nat → Nat → Int32} {c : Nat → Int32} : ∀ {k D : Nat}, oCk P c k = some D → D < 2 ^ nS P := by
  intro k
  induction k with
  | zero => intro D h; cases h; exact Nat.two_pow_pos _
  | succ k ih =>
    intro D h
    rw [oCk] at h
    cases hq : oCk P c k with
    | none => rw [hq] at h; cases h
    | some E =>
      rw [hq] at h
      cases hp : plc (c k) (nS P) with
      | none => rw [hp] at h; cases h
      | some v =>
        rw [hp] at h
        simp only at h
        split at h
        · cases h
          refine or_lt (ih hq) ?_
          unfold plc at hp
          split at hp
          · cases hp
          · split at hp
            · cases hp; assumption
            · cases hp
        · cases h
theorem oCk_none {P : Nat → Nat → Int32} {c : Nat → Int32} {k : Nat} (h : oCk P c k = none) : ∀ j, oCk P c (k + j) = none := by
  intro j
  induction j with
  | zero => exact h
  | succ j ih => rw [← Nat.add_assoc, oCk, ih]
/-- the first place of a row at which no such STEP can be -/
def oFl (P : Nat → Nat → Int32) (c : Nat → Int32) (k : Nat) : Option Nat := fst1 (fun j => (oCk P c (j + 1)).isNone) (nS P - k) k
section M11
variable {d : Nat} {h : abH} {Q : Option Value → abH → Prop}
set_option maxHeartbeats 4000000 in
theorem c166_55 (HM : KM h) {P : Nat → Nat → Int32} (hP : pv h = P) (V : okP P) {s : Nat} (hs : s < 4) {c : Nat → Int32} (hc : ∀ k, k < nS P → gI h 96 (40 * s + k) = c k) {C : Prop} (hC : ∀ x y, aW (d + 2) 166 138 [.ref 65, .int (nI s), x, .int (nI (nS P)), y] [] h Q = C) : ∀ {k D : Nat} {l4 : Value}, k ≤ nS P → oCk P c k = some D → aW (d + 2) 166 55 [.ref 65, .int (nI s), .int (nI D), .int (nI k), l4] [] h Q = (match oFl P c k with
    | some f => Q (some (.int ((-100) - nI f))) h
    | none => C) := by
  have s10 := V.s.1
  have hpw : 2 ^ nS P ≤ 1024 := Nat.pow_le_pow_right (by decide) s10 (n := 2)
  have e4 := hS hP V
  intro k D l4 hk
  obtain ⟨j, hj⟩ := Nat.exists_eq_add_of_le hk
  induction j generalizing k D l4 with
  | zero =>
    intro hD
    have hk : k = nS P := by omega
    subst hk
    unfold oFl
    rw [fst1_end, s166_55]
    simp (disch := first | omega | assumption | exact gt_65 HM | fail) only [s166_0, s166_1, s166_2, s166_3, s166_6, s166_9, s166_11, s166_12, s166_13, s166_16, s166_17, s166_18, s166_19, s166_22, s166_24, s166_25, s166_26, s166_29, s166_30, s166_31, s166_32, s166_35, s166_38, s166_40, s166_41, s166_42, s166_45, s166_48, s166_50, s166_51, s166_52, s166_53, s166_54, s166_56, s166_57, s166_60, s166_63, s166_64, s166_67, s166_69, s166_70, s166_71, s166_72, s166_73, s166_74, s166_76, s166_78, s166_79, s166_80, s166_83, s166_84, s166_85, s166_88, s166_91, s166_92, s166_94, s166_95, s166_96, s166_99, s166_100, s166_101, s166_104, s166_107, s166_109, s166_112, s166_113, s166_114, s166_117, s166_120, s166_122, s166_123, s166_124, s166_125, s166_126, s166_127, s166_129, s166_130, s166_131, s166_132, s166_135, s166_139, s166_141, s166_142, s166_145, s166_148, s166_149, s166_152, s166_153, s166_154, s166_157, s166_159, s166_160, s166_161, s166_162, s166_163, s166_164, s166_165, s166_168, s166_171, s166_172, s166_173, s166_176, s166_177, s166_180, ai_94 HM, ai_95 HM, ai_96 HM, aj_88 HM, gr_65_27 HM, gr_65_42 HM, gr_65_43 HM, gr_65_44 HM, gt_65 HM, am166, isRf_ref, true_and, and_true, aPs_s, aPs_n, b01_0, b01_1, nI_clamp, ix_nI, inb_nI, lt_nI, eq_nI, nn_nI, eq0_nI, pk_mul, nI_add, lt_T, lt_F, if_true, if_false, true_and, and_true, neg1_nI, neg1_lt, neg1_neg, lt_neg1, eqN_F, eq_self,  e4, Nat.lt_irrefl]
    exact hC _ _
  | succ j ih =>
    intro hD
    have hkn : k < nS P := by omega
    have hD2 := oCk_lt hD
    have hck := hc k hkn
    have hin := in_pls (k := c k) (n := nS P) (by omega)
    have h40 : 40 * s + k < 160 := by omega
    unfold oFl
    rw [fst1_step hkn, s166_55]
    have e1 : oCk P c (k + 1) = match plc (c k) (nS P) with
      | none => none
      | some v => if mRdy P v D = true then some (D ||| 2 ^ v) else none := by
      rw [oCk, hD]
    cases hp : plc (c k) (nS P) with
    | none =>
      rw [hp] at e1 hin
      rw [e1]
      simp (disch := first | omega | assumption | exact gt_65 HM | fail) only [s166_0, s166_1, s166_2, s166_3, s166_6, s166_9, s166_11, s166_12, s166_13, s166_16, s166_17, s166_18, s166_19, s166_22, s166_24, s166_25, s166_26, s166_29, s166_30, s166_31, s166_32, s166_35, s166_38, s166_40, s166_41, s166_42, s166_45, s166_48, s166_50, s166_51, s166_52, s166_53, s166_54, s166_56, s166_57, s166_60, s166_63, s166_64, s166_67, s166_69, s166_70, s166_71, s166_72, s166_73, s166_74, s166_76, s166_78, s166_79, s166_80, s166_83, s166_84, s166_85, s166_88, s166_91, s166_92, s166_94, s166_95, s166_96, s166_99, s166_100, s166_101, s166_104, s166_107, s166_109, s166_112, s166_113, s166_114, s166_117, s166_120, s166_122, s166_123, s166_124, s166_125, s166_126, s166_127, s166_129, s166_130, s166_131, s166_132, s166_135, s166_139, s166_141, s166_142, s166_145, s166_148, s166_149, s166_152, s166_153, s166_154, s166_157, s166_159, s166_160, s166_161, s166_162, s166_163, s166_164, s166_165, s166_168, s166_171, s166_172, s166_173, s166_176, s166_177, s166_180, ai_94 HM, ai_95 HM, ai_96 HM, aj_88 HM, gr_65_27 HM, gr_65_42 HM, gr_65_43 HM, gr_65_44 HM, gt_65 HM, am166, isRf_ref, true_and, and_true, aPs_s, aPs_n, b01_0, b01_1, nI_clamp, ix_nI, inb_nI, lt_nI, eq_nI, nn_nI, eq0_nI, pk_mul, nI_add, lt_T, lt_F, if_true, if_false, true_and, and_true, neg1_nI, neg1_lt, neg1_neg, lt_neg1, eqN_F, eq_self,  e4, hck, c139, hin, Bool.not_false, Bool.not_true, Bool.true_and, Bool.false_and, Bool.and_true, Bool.and_false, Bool.or_true, Bool.or_false, Bool.true_or, Bool.false_or, Bool.true_eq_false, Bool.false_eq_true, if_true, if_false, Option.isSome_some, Option.isSome_none, Option.isNone_some, Option.isNone_none, zB_t, zB_f, nI1_0, nI0_0]
    | some v =>
      have hv : v < nS P ∧ c k = nI v := by
        rcases plc_cases (c k) (nS P) (by omega) with ⟨v2, h1, h2, h3⟩ | ⟨h3, _⟩ | ⟨h3, _⟩
        · rw [hp] at h3; cases h3; exact ⟨h1, h2⟩
        · rw [hp] at h3; cases h3
        · rw [hp] at h3; cases h3
      rw [hp] at e1 hin
      have c162' : ∀ Q', aM (d + 1) 162 [.ref 65, .int (nI v), .int (nI D)] h Q' = Q' (some (.int (zB (mRdy P v D)))) h := fun Q' => c162 HM hP hv.1 (by omega) V
      rw [hv.2] at hin hck
      have hv1 := hv.1
      have hin2 : (nI (nS P) - nI 1 < nI v) = False := eq_false (of_decide_eq_true hin).2
      rcases Bool.eq_false_or_eq_true (mRdy P v D) with hr | hr
      · simp only [hr, if_true] at e1
        rw [e1]
        have ih2 := ih (k := k + 1) (l4 := .int (nI v)) (by omega) (by omega) e1
        unfold oFl at ih2
        simp only [Bool.not_false, Bool.not_true, Bool.true_and, Bool.false_and, Bool.and_true, Bool.and_false, Bool.or_true, Bool.or_false, Bool.true_or, Bool.false_or, Bool.true_eq_false, Bool.false_eq_true, if_true, if_false, Option.isSome_some, Option.isSome_none, Option.isNone_some, Option.isNone_none, zB_t, zB_f, nI1_0, nI0_0]
        rw [← ih2]
        simp (disch := first | omega | assumption | exact gt_65 HM | fail) only [s166_0, s166_1, s166_2, s166_3, s166_6, s166_9, s166_11, s166_12, s166_13, s166_16, s166_17, s166_18, s166_19, s166_22, s166_24, s166_25, s166_26, s166_29, s166_30, s166_31, s166_32, s166_35, s166_38, s166_40, s166_41, s166_42, s166_45, s166_48, s166_50, s166_51, s166_52, s166_53, s166_54, s166_56, s166_57, s166_60, s166_63, s166_64, s166_67, s166_69, s166_70, s166_71, s166_72, s166_73, s166_74, s166_76, s166_78, s166_79, s166_80, s166_83, s166_84, s166_85, s166_88, s166_91, s166_92, s166_94, s166_95, s166_96, s166_99, s166_100, s166_101, s166_104, s166_107, s166_109, s166_112, s166_113, s166_114, s166_117, s166_120, s166_122, s166_123, s166_124, s166_125, s166_126, s166_127, s166_129, s166_130, s166_131, s166_132, s166_135, s166_139, s166_141, s166_142, s166_145, s166_148, s166_149, s166_152, s166_153, s166_154, s166_157, s166_159, s166_160, s166_161, s166_162, s166_163, s166_164, s166_165, s166_168, s166_171, s166_172, s166_173, s166_176, s166_177, s166_180, ai_94 HM, ai_95 HM, ai_96 HM, aj_88 HM, gr_65_27 HM, gr_65_42 HM, gr_65_43 HM, gr_65_44 HM, gt_65 HM, am166, isRf_ref, true_and, and_true, aPs_s, aPs_n, b01_0, b01_1, nI_clamp, ix_nI, inb_nI, lt_nI, eq_nI, nn_nI, eq0_nI, pk_mul, nI_add, lt_T, lt_F, if_true, if_false, true_and, and_true, neg1_nI, neg1_lt, neg1_neg, lt_neg1, eqN_F, eq_self,  e4, hck, c139, hin2, not_false_eq_true, decide_true, Bool.not_false, Bool.not_true, Bool.true_and, Bool.false_and, Bool.and_true, Bool.and_false, Bool.or_true, Bool.or_false, Bool.true_or, Bool.false_or, Bool.true_eq_false, Bool.false_eq_true, if_true, if_false, Option.isSome_some, Option.isSome_none, Option.isNone_some, Option.isNone_none, zB_t, zB_f, nI1_0, nI0_0, c162', hr, nI_bit]
      · simp only [hr, Bool.false_eq_true, if_false] at e1
        rw [e1]
        simp (disch := first | omega | assumption | exact gt_65 HM | fail) only [s166_0, s166_1, s166_2, s166_3, s166_6, s166_9, s166_11, s166_12, s166_13, s166_16, s166_17, s166_18, s166_19, s166_22, s166_24, s166_25, s166_26, s166_29, s166_30, s166_31, s166_32, s166_35, s166_38, s166_40, s166_41, s166_42, s166_45, s166_48, s166_50, s166_51, s166_52, s166_53, s166_54, s166_56, s166_57, s166_60, s166_63, s166_64, s166_67, s166_69, s166_70, s166_71, s166_72, s166_73, s166_74, s166_76, s166_78, s166_79, s166_80, s166_83, s166_84, s166_85, s166_88, s166_91, s166_92, s166_94, s166_95, s166_96, s166_99, s166_100, s166_101, s166_104, s166_107, s166_109, s166_112, s166_113, s166_114, s166_117, s166_120, s166_122, s166_123, s166_124, s166_125, s166_126, s166_127, s166_129, s166_130, s166_131, s166_132, s166_135, s166_139, s166_141, s166_142, s166_145, s166_148, s166_149, s166_152, s166_153, s166_154, s166_157, s166_159, s166_160, s166_161, s166_162, s166_163, s166_164, s166_165, s166_168, s166_171, s166_172, s166_173, s166_176, s166_177, s166_180, ai_94 HM, ai_95 HM, ai_96 HM, aj_88 HM, gr_65_27 HM, gr_65_42 HM, gr_65_43 HM, gr_65_44 HM, gt_65 HM, am166, isRf_ref, true_and, and_true, aPs_s, aPs_n, b01_0, b01_1, nI_clamp, ix_nI, inb_nI, lt_nI, eq_nI, nn_nI, eq0_nI, pk_mul, nI_add, lt_T, lt_F, if_true, if_false, true_and, and_true, neg1_nI, neg1_lt, neg1_neg, lt_neg1, eqN_F, eq_self,  e4, hck, c139, hin2, not_false_eq_true, decide_true, Bool.not_false, Bool.not_true, Bool.true_and, Bool.false_and, Bool.and_true, Bool.and_false, Bool.or_true, Bool.or_false, Bool.true_or, Bool.false_or, Bool.true_eq_false, Bool.false_eq_true, if_true, if_false, Option.isSome_some, Option.isSome_none, Option.isNone_some, Option.isNone_none, zB_t, zB_f, nI1_0, nI0_0, c162', hr]
/-- a row of a sheet -/
def cRow (h : abH) (s : Nat) : Nat → Int32 := fun k => gI h 96 (40 * s + k)
set_option maxHeartbeats 4000000 in
theorem t166 (HM : KM h) {P : Nat → Nat → Int32} (hP : pv h = P) (V : okP P) {k : Int32} {p : Nat} (hp : gI h 65 32 = nI p) (hpl : p < 2 ^ 31) (hQ : match plc k 4 with
    | none => Q (some (.int (-5))) h
    | some s => if gI h 94 s = -1 then Q (some (.int (-11))) h else if gI h 95 s = nI (nS P) then (if 0 < p then Q (some (.int (-3))) h else (match oFl P (cRow h s) 0 with
      | some f => Q (some (.int ((-100) - nI f))) h
      | none => Q (some (.int (nI (nS P)))) (pI (pA h 88 (pre (cRow h s) (nS P) (gI h 88))) 65 26 (nI 1)))) else Q (some (.int (-2))) h) : aM (d + 2) 166 [.ref 65, .int k] h Q := by
  have s10 := V.s.1
  have e4 := hS hP V
  have hin := in_plc (k := k) (m := 3) (by decide)
  simp (disch := first | omega | assumption | exact gt_65 HM | fail) only [s166_0, s166_1, s166_2, s166_3, s166_6, s166_9, s166_11, s166_12, s166_13, s166_16, s166_17, s166_18, s166_19, s166_22, s166_24, s166_26, s166_29, s166_30, s166_31, s166_32, s166_35, s166_38, s166_40, s166_41, s166_42, s166_45, s166_48, s166_50, s166_51, s166_52, s166_53, s166_54, s166_56, s166_57, s166_60, s166_63, s166_64, s166_67, s166_69, s166_70, s166_71, s166_72, s166_73, s166_74, s166_76, s166_78, s166_79, s166_80, s166_83, s166_84, s166_85, s166_88, s166_91, s166_92, s166_94, s166_95, s166_96, s166_99, s166_100, s166_101, s166_104, s166_107, s166_109, s166_112, s166_113, s166_114, s166_117, s166_120, s166_122, s166_123, s166_124, s166_125, s166_126, s166_127, s166_129, s166_130, s166_131, s166_132, s166_135, s166_139, s166_141, s166_142, s166_145, s166_148, s166_149, s166_152, s166_153, s166_154, s166_157, s166_159, s166_160, s166_161, s166_162, s166_163, s166_164, s166_165, s166_168, s166_171, s166_172, s166_173, s166_176, s166_177, s166_180, ai_94 HM, ai_95 HM, ai_96 HM, aj_88 HM, gr_65_27 HM, gr_65_42 HM, gr_65_43 HM, gr_65_44 HM, gt_65 HM, am166, isRf_ref, true_and, and_true, aPs_s, aPs_n, b01_0, b01_1, nI_clamp, ix_nI, inb_nI, lt_nI, eq_nI, nn_nI, eq0_nI, pk_mul, nI_add, lt_T, lt_F, if_true, if_false, true_and, and_true, neg1_nI, neg1_lt, neg1_neg, lt_neg1, eqN_F, eq_self,  c139, hin]
  rcases plc_cases k 4 (by omega) with ⟨s, hs, rfl, e⟩ | ⟨e, _⟩ | ⟨e, _⟩
  · rw [e] at hQ
    simp only at hQ
    simp (disch := first | omega | assumption | exact gt_65 HM | fail) only [s166_0, s166_1, s166_2, s166_3, s166_6, s166_9, s166_11, s166_12, s166_13, s166_16, s166_17, s166_18, s166_19, s166_22, s166_24, s166_26, s166_29, s166_30, s166_31, s166_32, s166_35, s166_38, s166_40, s166_41, s166_42, s166_45, s166_48, s166_50, s166_51, s166_52, s166_53, s166_54, s166_56, s166_57, s166_60, s166_63, s166_64, s166_67, s166_69, s166_70, s166_71, s166_72, s166_73, s166_74, s166_76, s166_78, s166_79, s166_80, s166_83, s166_84, s166_85, s166_88, s166_91, s166_92, s166_94, s166_95, s166_96, s166_99, s166_100, s166_101, s166_104, s166_107, s166_109, s166_112, s166_113, s166_114, s166_117, s166_120, s166_122, s166_123, s166_124, s166_125, s166_126, s166_127, s166_129, s166_130, s166_131, s166_132, s166_135, s166_139, s166_141, s166_142, s166_145, s166_148, s166_149, s166_152, s166_153, s166_154, s166_157, s166_159, s166_160, s166_161, s166_162, s166_163, s166_164, s166_165, s166_168, s166_171, s166_172, s166_173, s166_176, s166_177, s166_180, ai_94 HM, ai_95 HM, ai_96 HM, aj_88 HM, gr_65_27 HM, gr_65_42 HM, gr_65_43 HM, gr_65_44 HM, gt_65 HM, am166, isRf_ref, true_and, and_true, aPs_s, aPs_n, b01_0, b01_1, nI_clamp, ix_nI, inb_nI, lt_nI, eq_nI, nn_nI, eq0_nI, pk_mul, nI_add, lt_T, lt_F, if_true, if_false, true_and, and_true, neg1_nI, neg1_lt, neg1_neg, lt_neg1, eqN_F, eq_self,  e, Bool.not_false, Bool.not_true, Bool.true_and, Bool.false_and, Bool.and_true, Bool.and_false, Bool.or_true, Bool.or_false, Bool.true_or, Bool.false_or, Bool.true_eq_false, Bool.false_eq_true, if_true, if_false, Option.isSome_some, Option.isSome_none, Option.isNone_some, Option.isNone_none, zB_t, zB_f, nI1_0, nI0_0, hs]
    by_cases h1 : gI h 94 s = -1
    · simp only [h1, if_true] at hQ ⊢
      exact hQ
    · simp only [h1, if_false] at hQ ⊢
      rw [s166_25]
      simp (disch := first | omega | assumption | exact gt_65 HM | fail) only [s166_0, s166_1, s166_2, s166_3, s166_6, s166_9, s166_11, s166_12, s166_13, s166_16, s166_17, s166_18, s166_19, s166_22, s166_24, s166_25, s166_26, s166_29, s166_30, s166_31, s166_32, s166_35, s166_38, s166_40, s166_41, s166_42, s166_45, s166_48, s166_50, s166_51, s166_52, s166_53, s166_54, s166_56, s166_57, s166_60, s166_63, s166_64, s166_67, s166_69, s166_70, s166_71, s166_72, s166_73, s166_74, s166_76, s166_78, s166_79, s166_80, s166_83, s166_84, s166_85, s166_88, s166_91, s166_92, s166_94, s166_95, s166_96, s166_99, s166_100, s166_101, s166_104, s166_107, s166_109, s166_112, s166_113, s166_114, s166_117, s166_120, s166_122, s166_123, s166_124, s166_125, s166_126, s166_127, s166_129, s166_130, s166_131, s166_132, s166_135, s166_139, s166_141, s166_142, s166_145, s166_148, s166_149, s166_152, s166_153, s166_154, s166_157, s166_159, s166_160, s166_161, s166_162, s166_163, s166_164, s166_165, s166_168, s166_171, s166_172, s166_173, s166_176, s166_177, s166_180, ai_94 HM, ai_95 HM, ai_96 HM, aj_88 HM, gr_65_27 HM, gr_65_42 HM, gr_65_43 HM, gr_65_44 HM, gt_65 HM, am166, isRf_ref, true_and, and_true, aPs_s, aPs_n, b01_0, b01_1, nI_clamp, ix_nI, inb_nI, lt_nI, eq_nI, nn_nI, eq0_nI, pk_mul, nI_add, lt_T, lt_F, if_true, if_false, true_and, and_true, neg1_nI, neg1_lt, neg1_neg, lt_neg1, eqN_F, eq_self,  e4, hp]
      by_cases h2 : gI h 95 s = nI (nS P)
      · simp only [h2, if_true] at hQ ⊢
        have e0 : (0 < nI p) = (0 < p) := by rw [← nI_0]; exact lt_nI (by decide) hpl
        simp only [e0]
        by_cases h3 : 0 < p
        · simp only [h3, if_true] at hQ ⊢
          exact hQ
        · simp only [h3, if_false] at hQ ⊢
          -- the row is taken over
          have copy : ∀ x y, aW (d + 2) 166 138 [.ref 65, .int (nI s), x, .int (nI (nS P)), y] [] h Q = Q (some (.int (nI (nS P)))) (pI (pA h 88 (pre (cRow h s) (nS P) (gI h 88))) 65 26 (nI 1)) := by
            intro x y
            have loop := for_0 (F := fun k => aW (d + 2) 166 140 [.ref 65, .int (nI s), x, .int (nI k), y] [] (pA h 88 (pre (cRow h s) k (gI h 88))) Q) (R := Q (some (.int (nI (nS P)))) (pI (pA h 88 (pre (cRow h s) (nS P) (gI h 88))) 65 26 (nI 1))) (nS P) (by
              have HM2 : KM (pA h 88 (pre (cRow h s) (nS P) (gI h 88))) := HM
              have t65 := gt_65 HM2
              rw [s166_140]
              have HM3 : KM (pI (pA h 88 (pre (cRow h s) (nS P) (gI h 88))) 65 26 (nI 1)) := HM
              have t65b := gt_65 HM3
              have e4c : gI (pI (pA h 88 (pre (cRow h s) (nS P) (gI h 88))) 65 26 (nI 1)) 65 4 = nI (nS P) := e4
              simp (disch := first | omega | assumption | exact gt_65 HM2 | fail) only [s166_0, s166_1, s166_2, s166_3, s166_6, s166_9, s166_11, s166_12, s166_13, s166_16, s166_17, s166_18, s166_19, s166_22, s166_24, s166_25, s166_26, s166_29, s166_30, s166_31, s166_32, s166_35, s166_38, s166_40, s166_41, s166_42, s166_45, s166_48, s166_50, s166_51, s166_52, s166_53, s166_54, s166_56, s166_57, s166_60, s166_63, s166_64, s166_67, s166_69, s166_70, s166_71, s166_72, s166_73, s166_74, s166_76, s166_78, s166_79, s166_80, s166_83, s166_84, s166_85, s166_88, s166_91, s166_92, s166_94, s166_95, s166_96, s166_99, s166_100, s166_101, s166_104, s166_107, s166_109, s166_112, s166_113, s166_114, s166_117, s166_120, s166_122, s166_123, s166_124, s166_125, s166_126, s166_127, s166_129, s166_130, s166_131, s166_132, s166_135, s166_139, s166_141, s166_142, s166_145, s166_148, s166_149, s166_152, s166_153, s166_154, s166_157, s166_159, s166_160, s166_161, s166_162, s166_163, s166_164, s166_165, s166_168, s166_171, s166_172, s166_173, s166_176, s166_177, s166_180, ai_94 HM2, ai_95 HM2, ai_96 HM2, aj_88 HM2, gr_65_27 HM2, gr_65_42 HM2, gr_65_43 HM2, gr_65_44 HM2, gt_65 HM2, am166, isRf_ref, true_and, and_true, aPs_s, aPs_n, b01_0, b01_1, nI_clamp, ix_nI, inb_nI, lt_nI, eq_nI, nn_nI, eq0_nI, pk_mul, nI_add, lt_T, lt_F, if_true, if_false, true_and, and_true, neg1_nI, neg1_lt, neg1_neg, lt_neg1, eqN_F, eq_self,  gI_ne (show 65 ≠ 88 by decide), e4, Nat.lt_irrefl, b01_1, e4c]
              ) (fun k hk => by
              have HM2 : KM (pA h 88 (pre (cRow h s) k (gI h 88))) := HM
              have t65 := gt_65 HM2
              have h40 : 40 * s + k < 160 := by omega
              have hk10 : k < 10 := by omega
              have up : pI (pA h 88 (pre (cRow h s) k (gI h 88))) 88 k (gI h 96 (40 * s + k)) = pA h 88 (pre (cRow h s) (k + 1) (gI h 88)) := by
                rw [pI_pA]
                exact congrArg _ (pre_upd (g := cRow h s))
              rw [s166_140]
              simp (disch := first | omega | assumption | exact gt_65 HM2 | fail) only [s166_0, s166_1, s166_2, s166_3, s166_6, s166_9, s166_11, s166_12, s166_13, s166_16, s166_17, s166_18, s166_19, s166_22, s166_24, s166_25, s166_26, s166_29, s166_30, s166_31, s166_32, s166_35, s166_38, s166_40, s166_41, s166_42, s166_45, s166_48, s166_50, s166_51, s166_52, s166_53, s166_54, s166_56, s166_57, s166_60, s166_63, s166_64, s166_67, s166_69, s166_70, s166_71, s166_72, s166_73, s166_74, s166_76, s166_78, s166_79, s166_80, s166_83, s166_84, s166_85, s166_88, s166_91, s166_92, s166_94, s166_95, s166_96, s166_99, s166_100, s166_101, s166_104, s166_107, s166_109, s166_112, s166_113, s166_114, s166_117, s166_120, s166_122, s166_123, s166_124, s166_125, s166_126, s166_127, s166_129, s166_130, s166_131, s166_132, s166_135, s166_139, s166_141, s166_142, s166_145, s166_148, s166_149, s166_152, s166_153, s166_154, s166_157, s166_159, s166_160, s166_161, s166_162, s166_163, s166_164, s166_165, s166_168, s166_171, s166_172, s166_173, s166_176, s166_177, s166_180, ai_94 HM2, ai_95 HM2, ai_96 HM2, aj_88 HM2, gr_65_27 HM2, gr_65_42 HM2, gr_65_43 HM2, gr_65_44 HM2, gt_65 HM2, am166, isRf_ref, true_and, and_true, aPs_s, aPs_n, b01_0, b01_1, nI_clamp, ix_nI, inb_nI, lt_nI, eq_nI, nn_nI, eq0_nI, pk_mul, nI_add, lt_T, lt_F, if_true, if_false, true_and, and_true, neg1_nI, neg1_lt, neg1_neg, lt_neg1, eqN_F, eq_self,  gI_ne (show 65 ≠ 88 by decide), gI_ne (show 96 ≠ 88 by decide), e4, up])
            rw [s166_138]
            simp (disch := first | omega | assumption | exact gt_65 HM | fail) only [s166_0, s166_1, s166_2, s166_3, s166_6, s166_9, s166_11, s166_12, s166_13, s166_16, s166_17, s166_18, s166_19, s166_22, s166_24, s166_25, s166_26, s166_29, s166_30, s166_31, s166_32, s166_35, s166_38, s166_40, s166_41, s166_42, s166_45, s166_48, s166_50, s166_51, s166_52, s166_53, s166_54, s166_56, s166_57, s166_60, s166_63, s166_64, s166_67, s166_69, s166_70, s166_71, s166_72, s166_73, s166_74, s166_76, s166_78, s166_79, s166_80, s166_83, s166_84, s166_85, s166_88, s166_91, s166_92, s166_94, s166_95, s166_96, s166_99, s166_100, s166_101, s166_104, s166_107, s166_109, s166_112, s166_113, s166_114, s166_117, s166_120, s166_122, s166_123, s166_124, s166_125, s166_126, s166_127, s166_129, s166_130, s166_131, s166_132, s166_135, s166_139, s166_141, s166_142, s166_145, s166_148, s166_149, s166_152, s166_153, s166_154, s166_157, s166_159, s166_160, s166_161, s166_162, s166_163, s166_164, s166_165, s166_168, s166_171, s166_172, s166_173, s166_176, s166_177, s166_180, ai_94 HM, ai_95 HM, ai_96 HM, aj_88 HM, gr_65_27 HM, gr_65_42 HM, gr_65_43 HM, gr_65_44 HM, gt_65 HM, am166, isRf_ref, true_and, and_true, aPs_s, aPs_n, b01_0, b01_1, nI_clamp, ix_nI, inb_nI, lt_nI, eq_nI, nn_nI, eq0_nI, pk_mul, nI_add, lt_T, lt_F, if_true, if_false, true_and, and_true, neg1_nI, neg1_lt, neg1_neg, lt_neg1, eqN_F, eq_self, ]
            rw [pre_0, pA_self] at loop
            exact loop
          rw [c166_55 HM hP V hs (c := cRow h s) (fun k _ => rfl) copy (Nat.zero_le _) (show oCk P (cRow h s) 0 = some 0 from rfl)]
          exact hQ
      · simp only [h2, if_false] at hQ ⊢
        exact hQ
  · rw [e] at hQ
    simp (disch := first | omega | assumption | exact gt_65 HM | fail) only [s166_0, s166_1, s166_2, s166_3, s166_6, s166_9, s166_11, s166_12, s166_13, s166_16, s166_17, s166_18, s166_19, s166_22, s166_24, s166_25, s166_26, s166_29, s166_30, s166_31, s166_32, s166_35, s166_38, s166_40, s166_41, s166_42, s166_45, s166_48, s166_50, s166_51, s166_52, s166_53, s166_54, s166_56, s166_57, s166_60, s166_63, s166_64, s166_67, s166_69, s166_70, s166_71, s166_72, s166_73, s166_74, s166_76, s166_78, s166_79, s166_80, s166_83, s166_84, s166_85, s166_88, s166_91, s166_92, s166_94, s166_95, s166_96, s166_99, s166_100, s166_101, s166_104, s166_107, s166_109, s166_112, s166_113, s166_114, s166_117, s166_120, s166_122, s166_123, s166_124, s166_125, s166_126, s166_127, s166_129, s166_130, s166_131, s166_132, s166_135, s166_139, s166_141, s166_142, s166_145, s166_148, s166_149, s166_152, s166_153, s166_154, s166_157, s166_159, s166_160, s166_161, s166_162, s166_163, s166_164, s166_165, s166_168, s166_171, s166_172, s166_173, s166_176, s166_177, s166_180, ai_94 HM, ai_95 HM, ai_96 HM, aj_88 HM, gr_65_27 HM, gr_65_42 HM, gr_65_43 HM, gr_65_44 HM, gt_65 HM, am166, isRf_ref, true_and, and_true, aPs_s, aPs_n, b01_0, b01_1, nI_clamp, ix_nI, inb_nI, lt_nI, eq_nI, nn_nI, eq0_nI, pk_mul, nI_add, lt_T, lt_F, if_true, if_false, true_and, and_true, neg1_nI, neg1_lt, neg1_neg, lt_neg1, eqN_F, eq_self,  e, Bool.not_false, Bool.not_true, Bool.true_and, Bool.false_and, Bool.and_true, Bool.and_false, Bool.or_true, Bool.or_false, Bool.true_or, Bool.false_or, Bool.true_eq_false, Bool.false_eq_true, if_true, if_false, Option.isSome_some, Option.isSome_none, Option.isNone_some, Option.isNone_none, zB_t, zB_f, nI1_0, nI0_0]
    exact hQ
  · rw [e] at hQ
    simp (disch := first | omega | assumption | exact gt_65 HM | fail) only [s166_0, s166_1, s166_2, s166_3, s166_6, s166_9, s166_11, s166_12, s166_13, s166_16, s166_17, s166_18, s166_19, s166_22, s166_24, s166_25, s166_26, s166_29, s166_30, s166_31, s166_32, s166_35, s166_38, s166_40, s166_41, s166_42, s166_45, s166_48, s166_50, s166_51, s166_52, s166_53, s166_54, s166_56, s166_57, s166_60, s166_63, s166_64, s166_67, s166_69, s166_70, s166_71, s166_72, s166_73, s166_74, s166_76, s166_78, s166_79, s166_80, s166_83, s166_84, s166_85, s166_88, s166_91, s166_92, s166_94, s166_95, s166_96, s166_99, s166_100, s166_101, s166_104, s166_107, s166_109, s166_112, s166_113, s166_114, s166_117, s166_120, s166_122, s166_123, s166_124, s166_125, s166_126, s166_127, s166_129, s166_130, s166_131, s166_132, s166_135, s166_139, s166_141, s166_142, s166_145, s166_148, s166_149, s166_152, s166_153, s166_154, s166_157, s166_159, s166_160, s166_161, s166_162, s166_163, s166_164, s166_165, s166_168, s166_171, s166_172, s166_173, s166_176, s166_177, s166_180, ai_94 HM, ai_95 HM, ai_96 HM, aj_88 HM, gr_65_27 HM, gr_65_42 HM, gr_65_43 HM, gr_65_44 HM, gt_65 HM, am166, isRf_ref, true_and, and_true, aPs_s, aPs_n, b01_0, b01_1, nI_clamp, ix_nI, inb_nI, lt_nI, eq_nI, nn_nI, eq0_nI, pk_mul, nI_add, lt_T, lt_F, if_true, if_false, true_and, and_true, neg1_nI, neg1_lt, neg1_neg, lt_neg1, eqN_F, eq_self,  e, Bool.not_false, Bool.not_true, Bool.true_and, Bool.false_and, Bool.and_true, Bool.and_false, Bool.or_true, Bool.or_false, Bool.true_or, Bool.false_or, Bool.true_eq_false, Bool.false_eq_true, if_true, if_false, Option.isSome_some, Option.isSome_none, Option.isNone_some, Option.isNone_none, zB_t, zB_f, nI1_0, nI0_0]
    exact hQ
end M11
