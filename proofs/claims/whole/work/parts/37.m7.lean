/-! THE REFERENCE'S PROGRAM: LEAST PEAK -/
def pkB (P : Nat → Nat → Int32) (s D : Nat) (t : Option Nat) : Option Nat := match t with
  | none => none
  | some r => some (if r < zLo P s D then zLo P s D else r)
def oMn (a n : Option Nat) : Option Nat := match n with
  | none => a
  | some x => match a with
    | none => some x
    | some m => if x < m then some x else some m
def bsN (P : Nat → Nat → Int32) (T : Nat → Option Nat) (s D : Nat) : Option Nat := if mRdy P s D = true then pkB P s D (T (D ||| 2 ^ s)) else none
def bsF (P : Nat → Nat → Int32) (T : Nat → Option Nat) (D : Nat) : Nat → Option Nat
  | 0 => if D = 2 ^ nS P - 1 then some 0 else none
  | s + 1 => oMn (bsF P T D s) (bsN P T s D)
theorem bsF_congr {P : Nat → Nat → Int32} {T T' : Nat → Option Nat} {D : Nat} : ∀ {n : Nat}, (∀ s, s < n → mRdy P s D = true → T (D ||| 2 ^ s) = T' (D ||| 2 ^ s)) → bsF P T D n = bsF P T' D n := by
  intro n
  induction n with
  | zero => exact fun _ => rfl
  | succ n ih =>
    intro h
    have e : bsN P T n D = bsN P T' n D := by
      unfold bsN
      split
      · rename_i hr; rw [h n (by omega) hr]
      · rfl
    rw [bsF, bsF, ih (fun s hs => h s (by omega)), e]
def mTf (P : Nat → Nat → Int32) : Nat → Nat → Option Nat
  | 0, _ => none
  | f + 1, D => bsF P (mTf P f) D (nS P)
def mT (P : Nat → Nat → Int32) (D : Nat) : Option Nat := mTf P (2 ^ nS P - D) D
theorem or_gt {D s : Nat} (h : tb D s = false) : D < D ||| 2 ^ s := by
  have h1 : D ≤ D ||| 2 ^ s := Nat.left_le_or
  rcases Nat.lt_or_eq_of_le h1 with h2 | h2
  · exact h2
  · have : tb (D ||| 2 ^ s) s = true := by rw [tb_or]; simp
    rw [← h2, h] at this
    cases this
theorem mTf_eq {P : Nat → Nat → Int32} : ∀ {f g D : Nat}, D < 2 ^ nS P → 2 ^ nS P - D ≤ f → 2 ^ nS P - D ≤ g → mTf P f D = mTf P g D := by
  intro f
  induction f with
  | zero => intro g D h1 h2 h3; omega
  | succ f ih =>
    intro g D h1 h2 h3
    cases g with
    | zero => omega
    | succ g =>
      rw [mTf, mTf]
      refine bsF_congr (fun s hs hr => ?_)
      have := or_gt (rdy_bit hr)
      have := or_lt h1 hs
      exact ih (by omega) (by omega) (by omega)
/-- LEAST PEAK by what is least from there on -/
theorem mT_eq {P : Nat → Nat → Int32} {D : Nat} (h : D < 2 ^ nS P) : mT P D = bsF P (mT P) D (nS P) := by
  unfold mT
  obtain ⟨k, hk⟩ : ∃ k, 2 ^ nS P - D = k + 1 := ⟨2 ^ nS P - D - 1, by omega⟩
  rw [hk, mTf]
  refine bsF_congr (fun s hs hr => ?_)
  have := or_gt (rdy_bit hr)
  have := or_lt h hs
  exact mTf_eq (by omega) (by omega) (by omega)
theorem pkB_le {P : Nat → Nat → Int32} (V : okP P) {s D x : Nat} {t : Option Nat} (hs : s < nS P) (ht : ∀ r, t = some r → r ≤ 666468) (h : pkB P s D t = some x) : x ≤ 666468 := by
  cases t with
  | none => cases h
  | some r =>
    have h1 := ht r rfl
    have h2 := zLo_le V (D := D) hs
    rw [pkB] at h
    cases h
    split <;> omega
theorem bsF_le {P : Nat → Nat → Int32} (V : okP P) {T : Nat → Option Nat} {D : Nat} : ∀ {n x : Nat}, n ≤ nS P → (∀ s r, s < nS P → tb D s = false → T (D ||| 2 ^ s) = some r → r ≤ 666468) → bsF P T D n = some x → x ≤ 666468 := by
  intro n
  induction n with
  | zero =>
    intro x _ _ h
    rw [bsF] at h
    split at h
    · cases h; omega
    · cases h
  | succ n ih =>
    intro x hn hT h
    rw [bsF] at h
    have h2 : ∀ y, bsN P T n D = some y → y ≤ 666468 := by
      intro y hy
      unfold bsN at hy
      split at hy
      · rename_i hr
        exact pkB_le V (by omega) (fun r hr2 => hT n r (by omega) (rdy_bit hr) hr2) hy
      · cases hy
    cases hn2 : bsN P T n D with
    | none =>
      rw [hn2] at h
      exact ih (by omega) hT h
    | some y =>
      rw [hn2] at h
      have h3 := h2 y hn2
      cases ha : bsF P T D n with
      | none =>
        rw [ha] at h
        cases h
        exact h3
      | some m =>
        have := ih (by omega) hT ha
        rw [ha] at h
        simp only [oMn] at h
        split at h <;> cases h <;> omega
theorem mTf_le {P : Nat → Nat → Int32} (V : okP P) : ∀ {f D x : Nat}, mTf P f D = some x → x ≤ 666468 := by
  intro f
  induction f with
  | zero => intro D x h; cases h
  | succ f ih =>
    intro D x h
    rw [mTf] at h
    exact bsF_le V (Nat.le_refl _) (fun s r _ _ h2 => ih h2) h
theorem mT_le {P : Nat → Nat → Int32} (V : okP P) {D x : Nat} (h : mT P D = some x) : x ≤ 666468 := mTf_le V h
/-- how many sets of STEPS can be ended, from one on -/
def hcN (P : Nat → Nat → Int32) : Nat → Nat
  | 0 => 0
  | j + 1 => hcN P j + (if (mT P (2 ^ nS P - 1 - j)).isSome = true then 1 else 0)
theorem hcN_le {P : Nat → Nat → Int32} : ∀ {j : Nat}, hcN P j ≤ j := by
  intro j
  induction j with
  | zero => exact Nat.le_refl _
  | succ j ih => rw [hcN]; split <;> omega
theorem oI_neg {t : Option Nat} (ht : ∀ x, t = some x → x < 2 ^ 31) : (oI t = -1) = (t.isSome = false) := by
  cases t with
  | none => simp [oI]
  | some x => rw [oI, neg1_nI (ht x rfl)]; simp
theorem oI_n : oI none = -1 := rfl
theorem oI_s {x : Nat} : oI (some x) = nI x := rfl
theorem iinc_m1 {k : Nat} (h : k + 1 < 2 ^ 31) : nI (k + 1) + (-1) = nI k := by
  have : (-1 : Int32) = -(nI 1) := by decide
  rw [this, ← Int32.sub_eq_add_neg]
  exact pk_sub (by omega)
theorem iinc_m0 : nI 0 + (-1) = -1 := by decide
def hB (P : Nat → Nat → Int32) (h : abH) (D : Nat) : abH := pA h 100 (fun E => if D ≤ E ∧ E < 2 ^ nS P then oI (mT P E) else gI h 100 E)
section M7
variable {d : Nat} {h : abH} {Q : Option Value → abH → Prop}
set_option maxHeartbeats 4000000 in
theorem c178 (HM : KM h) {P : Nat → Nat → Int32} (hP : pv h = P) (V : okP P) {s D : Nat} (hs : s < nS P) (hD : D < 1024) (hr : mRdy P s D = true) {t : Option Nat} (ht : gI h 100 (D ||| 2 ^ s) = oI t) (htl : ∀ x, t = some x → x ≤ 666468) : aM (d + 3) 178 [.ref 65, .int (nI s), .int (nI D)] h Q = Q (some (.int (oI (pkB P s D t)))) h := by
  have s10 := V.s.1
  have hDs : D ||| 2 ^ s < 1024 := or_lt (n := 10) hD (by omega)
  have c177' : ∀ Q', aM (d + 2) 177 [.ref 65, .int (nI s), .int (nI D)] h Q' = Q' (some (.int (nI (zLo P s D)))) h := fun Q' => c177 HM hP V hs hD hr
  have hz := zLo_le V (D := D) hs
  cases t with
  | none => simp (disch := first | omega | assumption | exact gt_65 HM) only [s178_0, s178_1, s178_4, s178_5, s178_6, s178_7, s178_8, s178_9, s178_10, s178_11, s178_12, s178_13, s178_16, s178_17, s178_20, s178_21, s178_22, s178_23, s178_26, s178_28, s178_29, s178_30, s178_33, s178_34, s178_37, s178_39, s178_40, s178_43, s178_45, s178_48, s178_49, ai_100 HM, gr_65_49 HM, gt_65 HM, am178, isRf_ref, true_and, and_true, aPs_s, aPs_n, b01_0, b01_1, nI_clamp, ix_nI, inb_nI, lt_nI, eq_nI, nn_nI, eq0_nI, pk_mul, nI_add, lt_T, lt_F, if_true, if_false, true_and, and_true, neg1_nI, neg1_lt, neg1_neg, lt_neg1, eqN_F, eq_self,  nI_bit, hDs, ht, oI, pkB]
  | some x =>
    have hx := htl x rfl
    simp (disch := first | omega | assumption | exact gt_65 HM) only [s178_0, s178_1, s178_4, s178_5, s178_6, s178_7, s178_8, s178_9, s178_10, s178_11, s178_12, s178_13, s178_16, s178_17, s178_20, s178_21, s178_22, s178_23, s178_26, s178_28, s178_29, s178_30, s178_33, s178_34, s178_37, s178_39, s178_40, s178_43, s178_45, s178_48, s178_49, ai_100 HM, gr_65_49 HM, gt_65 HM, am178, isRf_ref, true_and, and_true, aPs_s, aPs_n, b01_0, b01_1, nI_clamp, ix_nI, inb_nI, lt_nI, eq_nI, nn_nI, eq0_nI, pk_mul, nI_add, lt_T, lt_F, if_true, if_false, true_and, and_true, neg1_nI, neg1_lt, neg1_neg, lt_neg1, eqN_F, eq_self,  nI_bit, hDs, ht, oI, pkB, c177']
    by_cases h1 : x < zLo P s D <;> simp (disch := first | omega | assumption | exact gt_65 HM) only [s178_0, s178_1, s178_4, s178_5, s178_6, s178_7, s178_8, s178_9, s178_10, s178_11, s178_12, s178_13, s178_16, s178_17, s178_20, s178_21, s178_22, s178_23, s178_26, s178_28, s178_29, s178_30, s178_33, s178_34, s178_37, s178_39, s178_40, s178_43, s178_45, s178_48, s178_49, ai_100 HM, gr_65_49 HM, gt_65 HM, am178, isRf_ref, true_and, and_true, aPs_s, aPs_n, b01_0, b01_1, nI_clamp, ix_nI, inb_nI, lt_nI, eq_nI, nn_nI, eq0_nI, pk_mul, nI_add, lt_T, lt_F, if_true, if_false, true_and, and_true, neg1_nI, neg1_lt, neg1_neg, lt_neg1, eqN_F, eq_self,  h1, oI]
def hX (P : Nat → Nat → Int32) (h : abH) (D s : Nat) : abH := pA h 100 (upd (gI (hB P h (D + 1)) 100) D (oI (bsF P (mT P) D s)))
theorem hX_end {P : Nat → Nat → Int32} {D : Nat} (hD : D < 2 ^ nS P) : hX P h D (nS P) = hB P h D := by
  unfold hX hB
  rw [gI_eq]
  congr 1
  funext E
  unfold upd
  by_cases h1 : E = D
  · subst h1
    rw [if_pos rfl, if_pos ⟨Nat.le_refl _, hD⟩, ← mT_eq hD]
  · rw [if_neg h1]
    show (if D + 1 ≤ E ∧ E < 2 ^ nS P then oI (mT P E) else gI h 100 E) = _
    by_cases h2 : D ≤ E ∧ E < 2 ^ nS P
    · rw [if_pos h2, if_pos ⟨by omega, h2.2⟩]
    · rw [if_neg h2, if_neg (by omega)]
theorem hX_at {P : Nat → Nat → Int32} {D s E : Nat} (h1 : D < E) (h2 : E < 2 ^ nS P) : gI (hX P h D s) 100 E = oI (mT P E) := by
  unfold hX hB
  rw [gI_eq, gI_eq, upd_ne (by omega), if_pos ⟨by omega, h2⟩]
theorem hX_own {P : Nat → Nat → Int32} {D s : Nat} : gI (hX P h D s) 100 D = oI (bsF P (mT P) D s) := by
  unfold hX
  rw [gI_eq, upd_eq]
theorem hX_upd {P : Nat → Nat → Int32} {D s : Nat} : pI (hX P h D s) 100 D (oI (bsF P (mT P) D (s + 1))) = hX P h D (s + 1) := by
  unfold hX
  rw [pI_pA, upd_upd]
set_option maxHeartbeats 4000000 in
theorem c179_58 (HM : KM h) {P : Nat → Nat → Int32} (hP : pv h = P) (V : okP P) {D s : Nat} (hD : D < 2 ^ nS P) (hs : s < nS P) {i l2 l3 l6 : Value} {C : Prop} (hc : ∀ x, aW (d + 4) 179 58 [.ref 65, i, l2, l3, .int (nI D), .int (nI (s + 1)), x] [] (hX P h D (s + 1)) Q = C) : aW (d + 4) 179 58 [.ref 65, i, l2, l3, .int (nI D), .int (nI s), l6] [] (hX P h D s) Q = C := by
  have s10 := V.s.1
  have hpw : 2 ^ nS P ≤ 1024 := Nat.pow_le_pow_right (by decide) s10 (n := 2)
  have hD1 : D < 1024 := by omega
  have hb : ∀ s x, s ≤ nS P → bsF P (mT P) D s = some x → x ≤ 666468 := fun s x hs hx => bsF_le V hs (fun s r _ _ h2 => mT_le V h2) hx
  have HM2 : KM (hX P h D s) := HM
  have t65 := gt_65 HM2
  have hp2 : pv (hX P h D s) = P := by unfold hX; rw [pv_pA (by omega), hP]
  have e4 : gI (hX P h D s) 65 4 = nI (nS P) := hS hp2 V
  have own := hX_own (h := h) (P := P) (D := D) (s := s)
  have up := hX_upd (h := h) (P := P) (D := D) (s := s)
  have c162' : ∀ Q', aM (d + 3) 162 [.ref 65, .int (nI s), .int (nI D)] (hX P h D s) Q' = Q' (some (.int (zB (mRdy P s D)))) (hX P h D s) := fun Q' => c162 HM2 hp2 hs hD1 V
  rw [bsF] at up
  rw [s179_58]
  rcases Bool.eq_false_or_eq_true (mRdy P s D) with hr | hr
  · have hor := or_gt (rdy_bit hr)
    have hor2 := or_lt hD hs
    have c178' : ∀ Q', aM (d + 3) 178 [.ref 65, .int (nI s), .int (nI D)] (hX P h D s) Q' = Q' (some (.int (oI (pkB P s D (mT P (D ||| 2 ^ s)))))) (hX P h D s) := fun Q' => c178 HM2 hp2 V hs hD1 hr (hX_at hor hor2) (fun x hx => mT_le V hx)
    have ebs : bsN P (mT P) s D = pkB P s D (mT P (D ||| 2 ^ s)) := by unfold bsN; rw [if_pos hr]
    rw [ebs] at up
    cases hn : pkB P s D (mT P (D ||| 2 ^ s)) with
    | none =>
      rw [hn] at up
      simp only [oMn] at up
      simp (disch := first | omega | assumption | exact gt_65 HM2) only [s179_0, s179_1, s179_3, s179_4, s179_7, s179_8, s179_9, s179_12, s179_15, s179_17, s179_18, s179_19, s179_20, s179_23, s179_24, s179_25, s179_26, s179_27, s179_28, s179_29, s179_30, s179_32, s179_34, s179_38, s179_41, s179_43, s179_45, s179_46, s179_49, s179_50, s179_53, s179_54, s179_55, s179_56, s179_60, s179_61, s179_64, s179_67, s179_68, s179_70, s179_72, s179_75, s179_78, s179_79, s179_81, s179_83, s179_86, s179_89, s179_90, s179_92, s179_93, s179_96, s179_98, s179_100, s179_101, s179_104, s179_105, s179_108, s179_110, s179_111, s179_112, s179_115, s179_117, s179_118, s179_121, s179_123, s179_124, s179_127, s179_129, s179_132, s179_133, s179_136, s179_138, s179_139, s179_140, s179_143, s179_146, s179_147, s179_148, s179_151, s179_153, s179_154, s179_155, s179_158, s179_159, s179_162, s179_163, s179_164, s179_168, s179_171, s179_172, s179_175, s179_176, s179_177, s179_178, s179_181, s179_183, s179_184, s179_185, s179_188, s179_189, s179_190, s179_193, s179_194, s179_197, s179_198, s179_199, s179_202, s179_203, s179_204, s179_205, s179_207, s179_208, s179_210, s179_211, s179_213, s179_215, s179_216, s179_219, s179_220, s179_222, s179_223, s179_225, s179_227, s179_230, s179_233, s179_234, s179_236, s179_238, s179_241, s179_242, s179_245, s179_246, s179_248, s179_250, s179_253, s179_254, s179_257, s179_258, s179_259, s179_262, s179_265, s179_268, s179_270, s179_271, s179_273, s179_274, s179_275, s179_277, s179_280, s179_283, s179_285, ai_100 HM2, aj_100 HM2, gr_65_49 HM2, gt_65 HM2, am179, isRf_ref, true_and, and_true, aPs_s, aPs_n, b01_0, b01_1, nI_clamp, ix_nI, inb_nI, lt_nI, eq_nI, nn_nI, eq0_nI, pk_mul, nI_add, lt_T, lt_F, if_true, if_false, true_and, and_true, neg1_nI, neg1_lt, neg1_neg, lt_neg1, eqN_F, eq_self,  e4, c162', c178', hr, hn, Bool.not_false, Bool.not_true, Bool.true_and, Bool.false_and, Bool.and_true, Bool.and_false, Bool.or_true, Bool.or_false, Bool.true_or, Bool.false_or, Bool.true_eq_false, Bool.false_eq_true, if_true, if_false, Option.isSome_some, Option.isSome_none, Option.isNone_some, Option.isNone_none, zB_t, zB_f, nI1_0, nI0_0, oI_n, oI_s, own, up]
      exact hc _
    | some x =>
      have hx := pkB_le V hs (fun r hr => mT_le V hr) hn
      rw [hn] at up
      cases ha : bsF P (mT P) D s with
      | none =>
        rw [ha] at up own
        simp only [oMn, oI_n, oI_s] at up own
        simp (disch := first | omega | assumption | exact gt_65 HM2) only [s179_0, s179_1, s179_3, s179_4, s179_7, s179_8, s179_9, s179_12, s179_15, s179_17, s179_18, s179_19, s179_20, s179_23, s179_24, s179_25, s179_26, s179_27, s179_28, s179_29, s179_30, s179_32, s179_34, s179_38, s179_41, s179_43, s179_45, s179_46, s179_49, s179_50, s179_53, s179_54, s179_55, s179_56, s179_60, s179_61, s179_64, s179_67, s179_68, s179_70, s179_72, s179_75, s179_78, s179_79, s179_81, s179_83, s179_86, s179_89, s179_90, s179_92, s179_93, s179_96, s179_98, s179_100, s179_101, s179_104, s179_105, s179_108, s179_110, s179_111, s179_112, s179_115, s179_117, s179_118, s179_121, s179_123, s179_124, s179_127, s179_129, s179_132, s179_133, s179_136, s179_138, s179_139, s179_140, s179_143, s179_146, s179_147, s179_148, s179_151, s179_153, s179_154, s179_155, s179_158, s179_159, s179_162, s179_163, s179_164, s179_168, s179_171, s179_172, s179_175, s179_176, s179_177, s179_178, s179_181, s179_183, s179_184, s179_185, s179_188, s179_189, s179_190, s179_193, s179_194, s179_197, s179_198, s179_199, s179_202, s179_203, s179_204, s179_205, s179_207, s179_208, s179_210, s179_211, s179_213, s179_215, s179_216, s179_219, s179_220, s179_222, s179_223, s179_225, s179_227, s179_230, s179_233, s179_234, s179_236, s179_238, s179_241, s179_242, s179_245, s179_246, s179_248, s179_250, s179_253, s179_254, s179_257, s179_258, s179_259, s179_262, s179_265, s179_268, s179_270, s179_271, s179_273, s179_274, s179_275, s179_277, s179_280, s179_283, s179_285, ai_100 HM2, aj_100 HM2, gr_65_49 HM2, gt_65 HM2, am179, isRf_ref, true_and, and_true, aPs_s, aPs_n, b01_0, b01_1, nI_clamp, ix_nI, inb_nI, lt_nI, eq_nI, nn_nI, eq0_nI, pk_mul, nI_add, lt_T, lt_F, if_true, if_false, true_and, and_true, neg1_nI, neg1_lt, neg1_neg, lt_neg1, eqN_F, eq_self,  e4, c162', c178', hr, hn, Bool.not_false, Bool.not_true, Bool.true_and, Bool.false_and, Bool.and_true, Bool.and_false, Bool.or_true, Bool.or_false, Bool.true_or, Bool.false_or, Bool.true_eq_false, Bool.false_eq_true, if_true, if_false, Option.isSome_some, Option.isSome_none, Option.isNone_some, Option.isNone_none, zB_t, zB_f, nI1_0, nI0_0, oI_n, oI_s, own, up]
        exact hc _
      | some m =>
        have hm := hb s m (by omega) ha
        rw [ha] at up own
        simp only [oMn, oI_n, oI_s] at up own
        by_cases h5 : x < m
        · rw [if_pos h5, oI_s] at up
          simp (disch := first | omega | assumption | exact gt_65 HM2) only [s179_0, s179_1, s179_3, s179_4, s179_7, s179_8, s179_9, s179_12, s179_15, s179_17, s179_18, s179_19, s179_20, s179_23, s179_24, s179_25, s179_26, s179_27, s179_28, s179_29, s179_30, s179_32, s179_34, s179_38, s179_41, s179_43, s179_45, s179_46, s179_49, s179_50, s179_53, s179_54, s179_55, s179_56, s179_60, s179_61, s179_64, s179_67, s179_68, s179_70, s179_72, s179_75, s179_78, s179_79, s179_81, s179_83, s179_86, s179_89, s179_90, s179_92, s179_93, s179_96, s179_98, s179_100, s179_101, s179_104, s179_105, s179_108, s179_110, s179_111, s179_112, s179_115, s179_117, s179_118, s179_121, s179_123, s179_124, s179_127, s179_129, s179_132, s179_133, s179_136, s179_138, s179_139, s179_140, s179_143, s179_146, s179_147, s179_148, s179_151, s179_153, s179_154, s179_155, s179_158, s179_159, s179_162, s179_163, s179_164, s179_168, s179_171, s179_172, s179_175, s179_176, s179_177, s179_178, s179_181, s179_183, s179_184, s179_185, s179_188, s179_189, s179_190, s179_193, s179_194, s179_197, s179_198, s179_199, s179_202, s179_203, s179_204, s179_205, s179_207, s179_208, s179_210, s179_211, s179_213, s179_215, s179_216, s179_219, s179_220, s179_222, s179_223, s179_225, s179_227, s179_230, s179_233, s179_234, s179_236, s179_238, s179_241, s179_242, s179_245, s179_246, s179_248, s179_250, s179_253, s179_254, s179_257, s179_258, s179_259, s179_262, s179_265, s179_268, s179_270, s179_271, s179_273, s179_274, s179_275, s179_277, s179_280, s179_283, s179_285, ai_100 HM2, aj_100 HM2, gr_65_49 HM2, gt_65 HM2, am179, isRf_ref, true_and, and_true, aPs_s, aPs_n, b01_0, b01_1, nI_clamp, ix_nI, inb_nI, lt_nI, eq_nI, nn_nI, eq0_nI, pk_mul, nI_add, lt_T, lt_F, if_true, if_false, true_and, and_true, neg1_nI, neg1_lt, neg1_neg, lt_neg1, eqN_F, eq_self,  e4, c162', c178', hr, hn, Bool.not_false, Bool.not_true, Bool.true_and, Bool.false_and, Bool.and_true, Bool.and_false, Bool.or_true, Bool.or_false, Bool.true_or, Bool.false_or, Bool.true_eq_false, Bool.false_eq_true, if_true, if_false, Option.isSome_some, Option.isSome_none, Option.isNone_some, Option.isNone_none, zB_t, zB_f, nI1_0, nI0_0, oI_n, oI_s, own, h5, up]
          exact hc _
        · rw [if_neg h5, oI_s] at up
          simp (disch := first | omega | assumption | exact gt_65 HM2) only [s179_0, s179_1, s179_3, s179_4, s179_7, s179_8, s179_9, s179_12, s179_15, s179_17, s179_18, s179_19, s179_20, s179_23, s179_24, s179_25, s179_26, s179_27, s179_28, s179_29, s179_30, s179_32, s179_34, s179_38, s179_41, s179_43, s179_45, s179_46, s179_49, s179_50, s179_53, s179_54, s179_55, s179_56, s179_60, s179_61, s179_64, s179_67, s179_68, s179_70, s179_72, s179_75, s179_78, s179_79, s179_81, s179_83, s179_86, s179_89, s179_90, s179_92, s179_93, s179_96, s179_98, s179_100, s179_101, s179_104, s179_105, s179_108, s179_110, s179_111, s179_112, s179_115, s179_117, s179_118, s179_121, s179_123, s179_124, s179_127, s179_129, s179_132, s179_133, s179_136, s179_138, s179_139, s179_140, s179_143, s179_146, s179_147, s179_148, s179_151, s179_153, s179_154, s179_155, s179_158, s179_159, s179_162, s179_163, s179_164, s179_168, s179_171, s179_172, s179_175, s179_176, s179_177, s179_178, s179_181, s179_183, s179_184, s179_185, s179_188, s179_189, s179_190, s179_193, s179_194, s179_197, s179_198, s179_199, s179_202, s179_203, s179_204, s179_205, s179_207, s179_208, s179_210, s179_211, s179_213, s179_215, s179_216, s179_219, s179_220, s179_222, s179_223, s179_225, s179_227, s179_230, s179_233, s179_234, s179_236, s179_238, s179_241, s179_242, s179_245, s179_246, s179_248, s179_250, s179_253, s179_254, s179_257, s179_258, s179_259, s179_262, s179_265, s179_268, s179_270, s179_271, s179_273, s179_274, s179_275, s179_277, s179_280, s179_283, s179_285, ai_100 HM2, aj_100 HM2, gr_65_49 HM2, gt_65 HM2, am179, isRf_ref, true_and, and_true, aPs_s, aPs_n, b01_0, b01_1, nI_clamp, ix_nI, inb_nI, lt_nI, eq_nI, nn_nI, eq0_nI, pk_mul, nI_add, lt_T, lt_F, if_true, if_false, true_and, and_true, neg1_nI, neg1_lt, neg1_neg, lt_neg1, eqN_F, eq_self,  e4, c162', c178', hr, hn, Bool.not_false, Bool.not_true, Bool.true_and, Bool.false_and, Bool.and_true, Bool.and_false, Bool.or_true, Bool.or_false, Bool.true_or, Bool.false_or, Bool.true_eq_false, Bool.false_eq_true, if_true, if_false, Option.isSome_some, Option.isSome_none, Option.isNone_some, Option.isNone_none, zB_t, zB_f, nI1_0, nI0_0, oI_n, oI_s, own, h5, up]
          exact hc _
  · have ebs : bsN P (mT P) s D = none := by unfold bsN; rw [if_neg (by rw [hr]; decide)]
    rw [ebs] at up
    simp only [oMn] at up
    simp (disch := first | omega | assumption | exact gt_65 HM2) only [s179_0, s179_1, s179_3, s179_4, s179_7, s179_8, s179_9, s179_12, s179_15, s179_17, s179_18, s179_19, s179_20, s179_23, s179_24, s179_25, s179_26, s179_27, s179_28, s179_29, s179_30, s179_32, s179_34, s179_38, s179_41, s179_43, s179_45, s179_46, s179_49, s179_50, s179_53, s179_54, s179_55, s179_56, s179_60, s179_61, s179_64, s179_67, s179_68, s179_70, s179_72, s179_75, s179_78, s179_79, s179_81, s179_83, s179_86, s179_89, s179_90, s179_92, s179_93, s179_96, s179_98, s179_100, s179_101, s179_104, s179_105, s179_108, s179_110, s179_111, s179_112, s179_115, s179_117, s179_118, s179_121, s179_123, s179_124, s179_127, s179_129, s179_132, s179_133, s179_136, s179_138, s179_139, s179_140, s179_143, s179_146, s179_147, s179_148, s179_151, s179_153, s179_154, s179_155, s179_158, s179_159, s179_162, s179_163, s179_164, s179_168, s179_171, s179_172, s179_175, s179_176, s179_177, s179_178, s179_181, s179_183, s179_184, s179_185, s179_188, s179_189, s179_190, s179_193, s179_194, s179_197, s179_198, s179_199, s179_202, s179_203, s179_204, s179_205, s179_207, s179_208, s179_210, s179_211, s179_213, s179_215, s179_216, s179_219, s179_220, s179_222, s179_223, s179_225, s179_227, s179_230, s179_233, s179_234, s179_236, s179_238, s179_241, s179_242, s179_245, s179_246, s179_248, s179_250, s179_253, s179_254, s179_257, s179_258, s179_259, s179_262, s179_265, s179_268, s179_270, s179_271, s179_273, s179_274, s179_275, s179_277, s179_280, s179_283, s179_285, ai_100 HM2, aj_100 HM2, gr_65_49 HM2, gt_65 HM2, am179, isRf_ref, true_and, and_true, aPs_s, aPs_n, b01_0, b01_1, nI_clamp, ix_nI, inb_nI, lt_nI, eq_nI, nn_nI, eq0_nI, pk_mul, nI_add, lt_T, lt_F, if_true, if_false, true_and, and_true, neg1_nI, neg1_lt, neg1_neg, lt_neg1, eqN_F, eq_self,  e4, c162', hr, Bool.not_false, Bool.not_true, Bool.true_and, Bool.false_and, Bool.and_true, Bool.and_false, Bool.or_true, Bool.or_false, Bool.true_or, Bool.false_or, Bool.true_eq_false, Bool.false_eq_true, if_true, if_false, Option.isSome_some, Option.isSome_none, Option.isNone_some, Option.isNone_none, zB_t, zB_f, nI1_0, nI0_0, own, up]
    exact hc _
set_option maxHeartbeats 4000000 in
/-- one set of STEPS: the least from there on -/
theorem c179_37 (HM : KM h) {P : Nat → Nat → Int32} (hP : pv h = P) (V : okP P) {D c : Nat} (hD : D < 2 ^ nS P) {i l5 l6 : Value} {C : Prop} (hc : ∀ x y, aW (d + 4) 179 165 [.ref 65, i, .int (nI (2 ^ nS P - 1)), .int (nI (c + (if (mT P D).isSome = true then 1 else 0))), .int (nI D), x, y] [] (hB P h D) Q = C) : aW (d + 4) 179 37 [.ref 65, i, .int (nI (2 ^ nS P - 1)), .int (nI c), .int (nI D), l5, l6] [] (hB P h (D + 1)) Q = C := by
  have s10 := V.s.1
  have hpw : 2 ^ nS P ≤ 1024 := Nat.pow_le_pow_right (by decide) s10 (n := 2)
  have hD1 : D < 1024 := by omega
  have inner := for_ds (σ := Value) (F := fun s l6 => aW (d + 4) 179 58 [.ref 65, i, .int (nI (2 ^ nS P - 1)), .int (nI c), .int (nI D), .int (nI s), l6] [] (hX P h D s) Q) (R := fun _ => C) (nS P) (fun x => by
    have HM2 : KM (hB P h D) := HM
    have t65 := gt_65 HM2
    have hp2 : pv (hB P h D) = P := by unfold hB; rw [pv_pA (by omega), hP]
    have e4 : gI (hB P h D) 65 4 = nI (nS P) := hS hp2 V
    have own : gI (hB P h D) 100 D = oI (mT P D) := by unfold hB; rw [gI_eq, if_pos ⟨Nat.le_refl _, hD⟩]
    have hneg : (oI (mT P D) = -1) = ((mT P D).isSome = false) := oI_neg (fun x hx => by have := mT_le V hx; omega)
    rw [hX_end hD, s179_58]
    simp (disch := first | omega | assumption | exact gt_65 HM2) only [s179_0, s179_1, s179_3, s179_4, s179_7, s179_8, s179_9, s179_12, s179_15, s179_17, s179_18, s179_19, s179_20, s179_23, s179_24, s179_25, s179_26, s179_27, s179_28, s179_29, s179_30, s179_32, s179_34, s179_38, s179_41, s179_43, s179_45, s179_46, s179_49, s179_50, s179_53, s179_54, s179_55, s179_56, s179_60, s179_61, s179_64, s179_67, s179_68, s179_70, s179_72, s179_75, s179_78, s179_79, s179_81, s179_83, s179_86, s179_89, s179_90, s179_92, s179_93, s179_96, s179_98, s179_100, s179_101, s179_104, s179_105, s179_108, s179_110, s179_111, s179_112, s179_115, s179_117, s179_118, s179_121, s179_123, s179_124, s179_127, s179_129, s179_132, s179_133, s179_136, s179_138, s179_139, s179_140, s179_143, s179_146, s179_147, s179_148, s179_151, s179_153, s179_154, s179_155, s179_158, s179_159, s179_162, s179_163, s179_164, s179_168, s179_171, s179_172, s179_175, s179_176, s179_177, s179_178, s179_181, s179_183, s179_184, s179_185, s179_188, s179_189, s179_190, s179_193, s179_194, s179_197, s179_198, s179_199, s179_202, s179_203, s179_204, s179_205, s179_207, s179_208, s179_210, s179_211, s179_213, s179_215, s179_216, s179_219, s179_220, s179_222, s179_223, s179_225, s179_227, s179_230, s179_233, s179_234, s179_236, s179_238, s179_241, s179_242, s179_245, s179_246, s179_248, s179_250, s179_253, s179_254, s179_257, s179_258, s179_259, s179_262, s179_265, s179_268, s179_270, s179_271, s179_273, s179_274, s179_275, s179_277, s179_280, s179_283, s179_285, ai_100 HM2, aj_100 HM2, gr_65_49 HM2, gt_65 HM2, am179, isRf_ref, true_and, and_true, aPs_s, aPs_n, b01_0, b01_1, nI_clamp, ix_nI, inb_nI, lt_nI, eq_nI, nn_nI, eq0_nI, pk_mul, nI_add, lt_T, lt_F, if_true, if_false, true_and, and_true, neg1_nI, neg1_lt, neg1_neg, lt_neg1, eqN_F, eq_self,  e4, own, hneg, Nat.lt_irrefl]
    rcases Bool.eq_false_or_eq_true (mT P D).isSome with h1 | h1
    · simp only [h1, if_true, if_false, Bool.true_eq_false] at hc ⊢
      simp (disch := first | omega | assumption | exact gt_65 HM2) only [s179_0, s179_1, s179_3, s179_4, s179_7, s179_8, s179_9, s179_12, s179_15, s179_17, s179_18, s179_19, s179_20, s179_23, s179_24, s179_25, s179_26, s179_27, s179_28, s179_29, s179_30, s179_32, s179_34, s179_38, s179_41, s179_43, s179_45, s179_46, s179_49, s179_50, s179_53, s179_54, s179_55, s179_56, s179_60, s179_61, s179_64, s179_67, s179_68, s179_70, s179_72, s179_75, s179_78, s179_79, s179_81, s179_83, s179_86, s179_89, s179_90, s179_92, s179_93, s179_96, s179_98, s179_100, s179_101, s179_104, s179_105, s179_108, s179_110, s179_111, s179_112, s179_115, s179_117, s179_118, s179_121, s179_123, s179_124, s179_127, s179_129, s179_132, s179_133, s179_136, s179_138, s179_139, s179_140, s179_143, s179_146, s179_147, s179_148, s179_151, s179_153, s179_154, s179_155, s179_158, s179_159, s179_162, s179_163, s179_164, s179_168, s179_171, s179_172, s179_175, s179_176, s179_177, s179_178, s179_181, s179_183, s179_184, s179_185, s179_188, s179_189, s179_190, s179_193, s179_194, s179_197, s179_198, s179_199, s179_202, s179_203, s179_204, s179_205, s179_207, s179_208, s179_210, s179_211, s179_213, s179_215, s179_216, s179_219, s179_220, s179_222, s179_223, s179_225, s179_227, s179_230, s179_233, s179_234, s179_236, s179_238, s179_241, s179_242, s179_245, s179_246, s179_248, s179_250, s179_253, s179_254, s179_257, s179_258, s179_259, s179_262, s179_265, s179_268, s179_270, s179_271, s179_273, s179_274, s179_275, s179_277, s179_280, s179_283, s179_285, ai_100 HM2, aj_100 HM2, gr_65_49 HM2, gt_65 HM2, am179, isRf_ref, true_and, and_true, aPs_s, aPs_n, b01_0, b01_1, nI_clamp, ix_nI, inb_nI, lt_nI, eq_nI, nn_nI, eq0_nI, pk_mul, nI_add, lt_T, lt_F, if_true, if_false, true_and, and_true, neg1_nI, neg1_lt, neg1_neg, lt_neg1, eqN_F, eq_self,  hc]
    · simp only [h1, if_true, if_false, Bool.false_eq_true] at hc ⊢
      simp (disch := first | omega | assumption | exact gt_65 HM2) only [s179_0, s179_1, s179_3, s179_4, s179_7, s179_8, s179_9, s179_12, s179_15, s179_17, s179_18, s179_19, s179_20, s179_23, s179_24, s179_25, s179_26, s179_27, s179_28, s179_29, s179_30, s179_32, s179_34, s179_38, s179_41, s179_43, s179_45, s179_46, s179_49, s179_50, s179_53, s179_54, s179_55, s179_56, s179_60, s179_61, s179_64, s179_67, s179_68, s179_70, s179_72, s179_75, s179_78, s179_79, s179_81, s179_83, s179_86, s179_89, s179_90, s179_92, s179_93, s179_96, s179_98, s179_100, s179_101, s179_104, s179_105, s179_108, s179_110, s179_111, s179_112, s179_115, s179_117, s179_118, s179_121, s179_123, s179_124, s179_127, s179_129, s179_132, s179_133, s179_136, s179_138, s179_139, s179_140, s179_143, s179_146, s179_147, s179_148, s179_151, s179_153, s179_154, s179_155, s179_158, s179_159, s179_162, s179_163, s179_164, s179_168, s179_171, s179_172, s179_175, s179_176, s179_177, s179_178, s179_181, s179_183, s179_184, s179_185, s179_188, s179_189, s179_190, s179_193, s179_194, s179_197, s179_198, s179_199, s179_202, s179_203, s179_204, s179_205, s179_207, s179_208, s179_210, s179_211, s179_213, s179_215, s179_216, s179_219, s179_220, s179_222, s179_223, s179_225, s179_227, s179_230, s179_233, s179_234, s179_236, s179_238, s179_241, s179_242, s179_245, s179_246, s179_248, s179_250, s179_253, s179_254, s179_257, s179_258, s179_259, s179_262, s179_265, s179_268, s179_270, s179_271, s179_273, s179_274, s179_275, s179_277, s179_280, s179_283, s179_285, ai_100 HM2, aj_100 HM2, gr_65_49 HM2, gt_65 HM2, am179, isRf_ref, true_and, and_true, aPs_s, aPs_n, b01_0, b01_1, nI_clamp, ix_nI, inb_nI, lt_nI, eq_nI, nn_nI, eq0_nI, pk_mul, nI_add, lt_T, lt_F, if_true, if_false, true_and, and_true, neg1_nI, neg1_lt, neg1_neg, lt_neg1, eqN_F, eq_self,  hc]) (fun s hs ih l6 => c179_58 HM hP V hD hs ih)
  have start := inner 0 (Nat.zero_le _)
  have HM2 : KM (hB P h (D + 1)) := HM
  have t65 := gt_65 HM2
  have e0 : ∀ v, v = oI (bsF P (mT P) D 0) → pI (hB P h (D + 1)) 100 D v = hX P h D 0 := by
    intro v hv
    rw [hv]
    unfold hX hB
    rw [pI_pA, gI_eq]
  rw [s179_37]
  by_cases h1 : D = 2 ^ nS P - 1
  · have e2 := e0 (nI 0) (by rw [bsF, if_pos h1]; rfl)
    rw [← h1] at start ⊢
    simp (disch := first | omega | assumption | exact gt_65 HM2) only [s179_0, s179_1, s179_3, s179_4, s179_7, s179_8, s179_9, s179_12, s179_15, s179_17, s179_18, s179_19, s179_20, s179_23, s179_24, s179_25, s179_26, s179_27, s179_28, s179_29, s179_30, s179_32, s179_34, s179_38, s179_41, s179_43, s179_45, s179_46, s179_49, s179_50, s179_53, s179_54, s179_55, s179_56, s179_60, s179_61, s179_64, s179_67, s179_68, s179_70, s179_72, s179_75, s179_78, s179_79, s179_81, s179_83, s179_86, s179_89, s179_90, s179_92, s179_93, s179_96, s179_98, s179_100, s179_101, s179_104, s179_105, s179_108, s179_110, s179_111, s179_112, s179_115, s179_117, s179_118, s179_121, s179_123, s179_124, s179_127, s179_129, s179_132, s179_133, s179_136, s179_138, s179_139, s179_140, s179_143, s179_146, s179_147, s179_148, s179_151, s179_153, s179_154, s179_155, s179_158, s179_159, s179_162, s179_163, s179_164, s179_168, s179_171, s179_172, s179_175, s179_176, s179_177, s179_178, s179_181, s179_183, s179_184, s179_185, s179_188, s179_189, s179_190, s179_193, s179_194, s179_197, s179_198, s179_199, s179_202, s179_203, s179_204, s179_205, s179_207, s179_208, s179_210, s179_211, s179_213, s179_215, s179_216, s179_219, s179_220, s179_222, s179_223, s179_225, s179_227, s179_230, s179_233, s179_234, s179_236, s179_238, s179_241, s179_242, s179_245, s179_246, s179_248, s179_250, s179_253, s179_254, s179_257, s179_258, s179_259, s179_262, s179_265, s179_268, s179_270, s179_271, s179_273, s179_274, s179_275, s179_277, s179_280, s179_283, s179_285, ai_100 HM2, aj_100 HM2, gr_65_49 HM2, gt_65 HM2, am179, isRf_ref, true_and, and_true, aPs_s, aPs_n, b01_0, b01_1, nI_clamp, ix_nI, inb_nI, lt_nI, eq_nI, nn_nI, eq0_nI, pk_mul, nI_add, lt_T, lt_F, if_true, if_false, true_and, and_true, neg1_nI, neg1_lt, neg1_neg, lt_neg1, eqN_F, eq_self,  e2, start]
  · have e2 := e0 (-1) (by rw [bsF, if_neg h1]; rfl)
    simp (disch := first | omega | assumption | exact gt_65 HM2) only [s179_0, s179_1, s179_3, s179_4, s179_7, s179_8, s179_9, s179_12, s179_15, s179_17, s179_18, s179_19, s179_20, s179_23, s179_24, s179_25, s179_26, s179_27, s179_28, s179_29, s179_30, s179_32, s179_34, s179_38, s179_41, s179_43, s179_45, s179_46, s179_49, s179_50, s179_53, s179_54, s179_55, s179_56, s179_60, s179_61, s179_64, s179_67, s179_68, s179_70, s179_72, s179_75, s179_78, s179_79, s179_81, s179_83, s179_86, s179_89, s179_90, s179_92, s179_93, s179_96, s179_98, s179_100, s179_101, s179_104, s179_105, s179_108, s179_110, s179_111, s179_112, s179_115, s179_117, s179_118, s179_121, s179_123, s179_124, s179_127, s179_129, s179_132, s179_133, s179_136, s179_138, s179_139, s179_140, s179_143, s179_146, s179_147, s179_148, s179_151, s179_153, s179_154, s179_155, s179_158, s179_159, s179_162, s179_163, s179_164, s179_168, s179_171, s179_172, s179_175, s179_176, s179_177, s179_178, s179_181, s179_183, s179_184, s179_185, s179_188, s179_189, s179_190, s179_193, s179_194, s179_197, s179_198, s179_199, s179_202, s179_203, s179_204, s179_205, s179_207, s179_208, s179_210, s179_211, s179_213, s179_215, s179_216, s179_219, s179_220, s179_222, s179_223, s179_225, s179_227, s179_230, s179_233, s179_234, s179_236, s179_238, s179_241, s179_242, s179_245, s179_246, s179_248, s179_250, s179_253, s179_254, s179_257, s179_258, s179_259, s179_262, s179_265, s179_268, s179_270, s179_271, s179_273, s179_274, s179_275, s179_277, s179_280, s179_283, s179_285, ai_100 HM2, aj_100 HM2, gr_65_49 HM2, gt_65 HM2, am179, isRf_ref, true_and, and_true, aPs_s, aPs_n, b01_0, b01_1, nI_clamp, ix_nI, inb_nI, lt_nI, eq_nI, nn_nI, eq0_nI, pk_mul, nI_add, lt_T, lt_F, if_true, if_false, true_and, and_true, neg1_nI, neg1_lt, neg1_neg, lt_neg1, eqN_F, eq_self,  h1, e2, start]
theorem iflt_m1 : ((-1 : Int32) < 0) = True := by decide
set_option maxHeartbeats 4000000 in
/-- all sets of STEPS, from all down to none -/
theorem c179_32 (HM : KM h) {P : Nat → Nat → Int32} (hP : pv h = P) (V : okP P) {i : Value} {C : Prop} (hc : ∀ x y, aW (d + 4) 179 171 [.ref 65, i, .int (nI (2 ^ nS P - 1)), .int (nI (hcN P (2 ^ nS P))), .int (-1), x, y] [] (hB P h 0) Q = C) : ∀ {D : Nat} {l5 l6 : Value}, D < 2 ^ nS P → aW (d + 4) 179 32 [.ref 65, i, .int (nI (2 ^ nS P - 1)), .int (nI (hcN P (2 ^ nS P - 1 - D))), .int (nI D), l5, l6] [] (hB P h (D + 1)) Q = C := by
  have s10 := V.s.1
  have hpw : 2 ^ nS P ≤ 1024 := Nat.pow_le_pow_right (by decide) s10 (n := 2)
  intro D
  induction D with
  | zero =>
    intro l5 l6 hD
    have HM2 : ∀ D, KM (hB P h D) := fun D => HM
    have HM3 := HM2 0
    rw [s179_32]
    simp (disch := first | omega | assumption | exact gt_65 (HM2 _)) only [s179_0, s179_1, s179_3, s179_4, s179_7, s179_8, s179_9, s179_12, s179_15, s179_17, s179_18, s179_19, s179_20, s179_23, s179_24, s179_25, s179_26, s179_27, s179_28, s179_29, s179_30, s179_34, s179_38, s179_41, s179_43, s179_45, s179_46, s179_49, s179_50, s179_53, s179_54, s179_55, s179_56, s179_60, s179_61, s179_64, s179_67, s179_68, s179_70, s179_72, s179_75, s179_78, s179_79, s179_81, s179_83, s179_86, s179_89, s179_90, s179_92, s179_93, s179_96, s179_98, s179_100, s179_101, s179_104, s179_105, s179_108, s179_110, s179_111, s179_112, s179_115, s179_117, s179_118, s179_121, s179_123, s179_124, s179_127, s179_129, s179_132, s179_133, s179_136, s179_138, s179_139, s179_140, s179_143, s179_146, s179_147, s179_148, s179_151, s179_153, s179_154, s179_155, s179_158, s179_159, s179_162, s179_163, s179_164, s179_168, s179_171, s179_172, s179_175, s179_176, s179_177, s179_178, s179_181, s179_183, s179_184, s179_185, s179_188, s179_189, s179_190, s179_193, s179_194, s179_197, s179_198, s179_199, s179_202, s179_203, s179_204, s179_205, s179_207, s179_208, s179_210, s179_211, s179_213, s179_215, s179_216, s179_219, s179_220, s179_222, s179_223, s179_225, s179_227, s179_230, s179_233, s179_234, s179_236, s179_238, s179_241, s179_242, s179_245, s179_246, s179_248, s179_250, s179_253, s179_254, s179_257, s179_258, s179_259, s179_262, s179_265, s179_268, s179_270, s179_271, s179_273, s179_274, s179_275, s179_277, s179_280, s179_283, s179_285, ai_100 (HM2 _), aj_100 (HM2 _), gr_65_49 (HM2 _), gt_65 (HM2 _), am179, isRf_ref, true_and, and_true, aPs_s, aPs_n, b01_0, b01_1, nI_clamp, ix_nI, inb_nI, lt_nI, eq_nI, nn_nI, eq0_nI, pk_mul, nI_add, lt_T, lt_F, if_true, if_false, true_and, and_true, neg1_nI, neg1_lt, neg1_neg, lt_neg1, eqN_F, eq_self, ]
    refine c179_37 HM hP V hD (fun x y => ?_)
    rw [s179_165]
    simp (disch := first | omega | assumption | exact gt_65 (HM2 _)) only [s179_0, s179_1, s179_3, s179_4, s179_7, s179_8, s179_9, s179_12, s179_15, s179_17, s179_18, s179_19, s179_20, s179_23, s179_24, s179_25, s179_26, s179_27, s179_28, s179_29, s179_30, s179_34, s179_38, s179_41, s179_43, s179_45, s179_46, s179_49, s179_50, s179_53, s179_54, s179_55, s179_56, s179_60, s179_61, s179_64, s179_67, s179_68, s179_70, s179_72, s179_75, s179_78, s179_79, s179_81, s179_83, s179_86, s179_89, s179_90, s179_92, s179_93, s179_96, s179_98, s179_100, s179_101, s179_104, s179_105, s179_108, s179_110, s179_111, s179_112, s179_115, s179_117, s179_118, s179_121, s179_123, s179_124, s179_127, s179_129, s179_132, s179_133, s179_136, s179_138, s179_139, s179_140, s179_143, s179_146, s179_147, s179_148, s179_151, s179_153, s179_154, s179_155, s179_158, s179_159, s179_162, s179_163, s179_164, s179_168, s179_172, s179_175, s179_176, s179_177, s179_178, s179_181, s179_183, s179_184, s179_185, s179_188, s179_189, s179_190, s179_193, s179_194, s179_197, s179_198, s179_199, s179_202, s179_203, s179_204, s179_205, s179_207, s179_208, s179_210, s179_211, s179_213, s179_215, s179_216, s179_219, s179_220, s179_222, s179_223, s179_225, s179_227, s179_230, s179_233, s179_234, s179_236, s179_238, s179_241, s179_242, s179_245, s179_246, s179_248, s179_250, s179_253, s179_254, s179_257, s179_258, s179_259, s179_262, s179_265, s179_268, s179_270, s179_271, s179_273, s179_274, s179_275, s179_277, s179_280, s179_283, s179_285, ai_100 (HM2 _), aj_100 (HM2 _), gr_65_49 (HM2 _), gt_65 (HM2 _), am179, isRf_ref, true_and, and_true, aPs_s, aPs_n, b01_0, b01_1, nI_clamp, ix_nI, inb_nI, lt_nI, eq_nI, nn_nI, eq0_nI, pk_mul, nI_add, lt_T, lt_F, if_true, if_false, true_and, and_true, neg1_nI, neg1_lt, neg1_neg, lt_neg1, eqN_F, eq_self,  iinc_m0]
    rw [s179_32]
    simp (disch := first | omega | assumption | exact gt_65 (HM2 _)) only [s179_0, s179_1, s179_3, s179_4, s179_7, s179_8, s179_9, s179_12, s179_15, s179_17, s179_18, s179_19, s179_20, s179_23, s179_24, s179_25, s179_26, s179_27, s179_28, s179_29, s179_30, s179_34, s179_38, s179_41, s179_43, s179_45, s179_46, s179_49, s179_50, s179_53, s179_54, s179_55, s179_56, s179_60, s179_61, s179_64, s179_67, s179_68, s179_70, s179_72, s179_75, s179_78, s179_79, s179_81, s179_83, s179_86, s179_89, s179_90, s179_92, s179_93, s179_96, s179_98, s179_100, s179_101, s179_104, s179_105, s179_108, s179_110, s179_111, s179_112, s179_115, s179_117, s179_118, s179_121, s179_123, s179_124, s179_127, s179_129, s179_132, s179_133, s179_136, s179_138, s179_139, s179_140, s179_143, s179_146, s179_147, s179_148, s179_151, s179_153, s179_154, s179_155, s179_158, s179_159, s179_162, s179_163, s179_164, s179_168, s179_172, s179_175, s179_176, s179_177, s179_178, s179_181, s179_183, s179_184, s179_185, s179_188, s179_189, s179_190, s179_193, s179_194, s179_197, s179_198, s179_199, s179_202, s179_203, s179_204, s179_205, s179_207, s179_208, s179_210, s179_211, s179_213, s179_215, s179_216, s179_219, s179_220, s179_222, s179_223, s179_225, s179_227, s179_230, s179_233, s179_234, s179_236, s179_238, s179_241, s179_242, s179_245, s179_246, s179_248, s179_250, s179_253, s179_254, s179_257, s179_258, s179_259, s179_262, s179_265, s179_268, s179_270, s179_271, s179_273, s179_274, s179_275, s179_277, s179_280, s179_283, s179_285, ai_100 (HM2 _), aj_100 (HM2 _), gr_65_49 (HM2 _), gt_65 (HM2 _), am179, isRf_ref, true_and, and_true, aPs_s, aPs_n, b01_0, b01_1, nI_clamp, ix_nI, inb_nI, lt_nI, eq_nI, nn_nI, eq0_nI, pk_mul, nI_add, lt_T, lt_F, if_true, if_false, true_and, and_true, neg1_nI, neg1_lt, neg1_neg, lt_neg1, eqN_F, eq_self,  iinc_m0]
    have e : hcN P (2 ^ nS P - 1 - 0) + (if (mT P 0).isSome = true then 1 else 0) = hcN P (2 ^ nS P) := by
      obtain ⟨k, hk⟩ : ∃ k, 2 ^ nS P = k + 1 := ⟨2 ^ nS P - 1, by omega⟩
      rw [hk, show k + 1 - 1 - 0 = k by omega]
      rw [hcN, hk, show k + 1 - 1 - k = 0 by omega]
    rw [e]
    exact hc _ _
  | succ D ih =>
    intro l5 l6 hD
    have HM2 : ∀ D, KM (hB P h D) := fun D => HM
    have HM3 := HM2 0
    rw [s179_32]
    simp (disch := first | omega | assumption | exact gt_65 (HM2 _)) only [s179_0, s179_1, s179_3, s179_4, s179_7, s179_8, s179_9, s179_12, s179_15, s179_17, s179_18, s179_19, s179_20, s179_23, s179_24, s179_25, s179_26, s179_27, s179_28, s179_29, s179_30, s179_34, s179_38, s179_41, s179_43, s179_45, s179_46, s179_49, s179_50, s179_53, s179_54, s179_55, s179_56, s179_60, s179_61, s179_64, s179_67, s179_68, s179_70, s179_72, s179_75, s179_78, s179_79, s179_81, s179_83, s179_86, s179_89, s179_90, s179_92, s179_93, s179_96, s179_98, s179_100, s179_101, s179_104, s179_105, s179_108, s179_110, s179_111, s179_112, s179_115, s179_117, s179_118, s179_121, s179_123, s179_124, s179_127, s179_129, s179_132, s179_133, s179_136, s179_138, s179_139, s179_140, s179_143, s179_146, s179_147, s179_148, s179_151, s179_153, s179_154, s179_155, s179_158, s179_159, s179_162, s179_163, s179_164, s179_168, s179_171, s179_172, s179_175, s179_176, s179_177, s179_178, s179_181, s179_183, s179_184, s179_185, s179_188, s179_189, s179_190, s179_193, s179_194, s179_197, s179_198, s179_199, s179_202, s179_203, s179_204, s179_205, s179_207, s179_208, s179_210, s179_211, s179_213, s179_215, s179_216, s179_219, s179_220, s179_222, s179_223, s179_225, s179_227, s179_230, s179_233, s179_234, s179_236, s179_238, s179_241, s179_242, s179_245, s179_246, s179_248, s179_250, s179_253, s179_254, s179_257, s179_258, s179_259, s179_262, s179_265, s179_268, s179_270, s179_271, s179_273, s179_274, s179_275, s179_277, s179_280, s179_283, s179_285, ai_100 (HM2 _), aj_100 (HM2 _), gr_65_49 (HM2 _), gt_65 (HM2 _), am179, isRf_ref, true_and, and_true, aPs_s, aPs_n, b01_0, b01_1, nI_clamp, ix_nI, inb_nI, lt_nI, eq_nI, nn_nI, eq0_nI, pk_mul, nI_add, lt_T, lt_F, if_true, if_false, true_and, and_true, neg1_nI, neg1_lt, neg1_neg, lt_neg1, eqN_F, eq_self, ]
    refine c179_37 HM hP V hD (fun x y => ?_)
    rw [s179_165]
    simp (disch := first | omega | assumption | exact gt_65 (HM2 _)) only [s179_0, s179_1, s179_3, s179_4, s179_7, s179_8, s179_9, s179_12, s179_15, s179_17, s179_18, s179_19, s179_20, s179_23, s179_24, s179_25, s179_26, s179_27, s179_28, s179_29, s179_30, s179_34, s179_38, s179_41, s179_43, s179_45, s179_46, s179_49, s179_50, s179_53, s179_54, s179_55, s179_56, s179_60, s179_61, s179_64, s179_67, s179_68, s179_70, s179_72, s179_75, s179_78, s179_79, s179_81, s179_83, s179_86, s179_89, s179_90, s179_92, s179_93, s179_96, s179_98, s179_100, s179_101, s179_104, s179_105, s179_108, s179_110, s179_111, s179_112, s179_115, s179_117, s179_118, s179_121, s179_123, s179_124, s179_127, s179_129, s179_132, s179_133, s179_136, s179_138, s179_139, s179_140, s179_143, s179_146, s179_147, s179_148, s179_151, s179_153, s179_154, s179_155, s179_158, s179_159, s179_162, s179_163, s179_164, s179_168, s179_172, s179_175, s179_176, s179_177, s179_178, s179_181, s179_183, s179_184, s179_185, s179_188, s179_189, s179_190, s179_193, s179_194, s179_197, s179_198, s179_199, s179_202, s179_203, s179_204, s179_205, s179_207, s179_208, s179_210, s179_211, s179_213, s179_215, s179_216, s179_219, s179_220, s179_222, s179_223, s179_225, s179_227, s179_230, s179_233, s179_234, s179_236, s179_238, s179_241, s179_242, s179_245, s179_246, s179_248, s179_250, s179_253, s179_254, s179_257, s179_258, s179_259, s179_262, s179_265, s179_268, s179_270, s179_271, s179_273, s179_274, s179_275, s179_277, s179_280, s179_283, s179_285, ai_100 (HM2 _), aj_100 (HM2 _), gr_65_49 (HM2 _), gt_65 (HM2 _), am179, isRf_ref, true_and, and_true, aPs_s, aPs_n, b01_0, b01_1, nI_clamp, ix_nI, inb_nI, lt_nI, eq_nI, nn_nI, eq0_nI, pk_mul, nI_add, lt_T, lt_F, if_true, if_false, true_and, and_true, neg1_nI, neg1_lt, neg1_neg, lt_neg1, eqN_F, eq_self,  iinc_m1]
    have e : hcN P (2 ^ nS P - 1 - (D + 1)) + (if (mT P (D + 1)).isSome = true then 1 else 0) = hcN P (2 ^ nS P - 1 - D) := by
      obtain ⟨k, hk⟩ : ∃ k, 2 ^ nS P - 1 - D = k + 1 := ⟨2 ^ nS P - 1 - D - 1, by omega⟩
      rw [hk, show 2 ^ nS P - 1 - (D + 1) = k by omega, hcN, show 2 ^ nS P - 1 - k = D + 1 by omega]
    rw [e]
    exact ih (by omega)
end M7
