/-! THE REFERENCE: a row of a SHEET lies -/
def lyX (P : Nat → Nat → Int32) (o bb f : Nat → Nat) (i : Nat) (L : Nat → Nat) : Nat := lwX (fun j => shB P o (bb (f i)) (bb (f j))) (zS P (bb (f i))) (fun j => L (f j)) (fun j => zS P (bb (f j))) i
def lyL (P : Nat → Nat → Int32) (o bb f : Nat → Nat) : Nat → Nat → Nat
  | 0 => fun _ => 0
  | i + 1 => fun k => if k = f i then lyX P o bb f i (lyL P o bb f i) else lyL P o bb f i k
def lyT (P : Nat → Nat → Int32) (o bb f : Nat → Nat) : Nat → Nat
  | 0 => 0
  | i + 1 => if lyT P o bb f i < lyX P o bb f i (lyL P o bb f i) + zS P (bb (f i)) then lyX P o bb f i (lyL P o bb f i) + zS P (bb (f i)) else lyT P o bb f i
def lyA (P : Nat → Nat → Int32) (o bb f : Nat → Nat) (g : Nat → Int32) : Nat → Nat → Int32
  | 0 => g
  | i + 1 => upd (lyA P o bb f g i) (f i) (nI (lyX P o bb f i (lyL P o bb f i)))
theorem ly_ok {P : Nat → Nat → Int32} (V : okP P) {o bb f : Nat → Nat} {g : Nat → Int32} {n : Nat} (hn : n ≤ 6) (hf : ∀ i, i < n → bb (f i) < 12) : ∀ {i : Nat}, i ≤ n → (∀ j, j < i → lyA P o bb f g i (f j) = nI (lyL P o bb f i (f j)) ∧ lyL P o bb f i (f j) + zS P (bb (f j)) ≤ 39204 * i) ∧ lyT P o bb f i ≤ 39204 * i := by
  intro i
  induction i with
  | zero => exact fun _ => ⟨fun j hj => by omega, Nat.le_refl _⟩
  | succ i ih =>
    intro hi
    obtain ⟨h1, h2⟩ := ih (by omega)
    have hx := (lwX_ok (S := fun j => shB P o (bb (f i)) (bb (f j))) (z := zS P (bb (f i))) (L := fun j => lyL P o bb f i (f j)) (Z := fun j => zS P (bb (f j))) (n := i) (B := 39204 * i) (fun j hj => (h1 j hj).2) (by omega)).2.1
    have hz := (zS_ok V (hf i (by omega))).2
    have hx : lyX P o bb f i (lyL P o bb f i) ≤ 39204 * i := hx
    refine ⟨fun j hj => ?_, ?_⟩
    · rw [lyA, lyL]
      by_cases e : f j = f i
      · simp only [e, if_true, upd_eq]
        exact ⟨trivial, by omega⟩
      · have hj2 : j < i := by
          rcases Nat.lt_or_eq_of_le (Nat.le_of_lt_succ hj) with h | h
          · exact h
          · subst h; exact absurd rfl e
        have := h1 j hj2
        rw [upd_ne e]
        simp only [e, if_false]
        exact ⟨this.1, by omega⟩
    · rw [lyT]
      split <;> omega
section M13
variable {d : Nat} {h : abH} {Q : Option Value → abH → Prop}
/-- what laysRow finds: the SHEET's BUFFERS, the row -/
def shH (h : abH) (s n : Nat) (bb : Nat → Nat) : Prop := ∀ i, i < n → gI h 96 (40 * s + i) = nI (bb i) ∧ bb i < 12
def rwH (h : abH) (n : Nat) (f : Nat → Nat) : Prop := ∀ i, i < n → gI h 101 i = nI (f i) ∧ f i < n
set_option maxHeartbeats 4000000 in
/-- one pass -/
theorem c182_55 (HM : KM h) {P : Nat → Nat → Int32} (hP : pv h = P) (V : okP P) {o bb f L : Nat → Nat} (O : ovH h P o) {s n i x b : Nat} (hs : s < 4) (hn : n ≤ 6) (B : shH h s n bb) (R : rwH h n f) (hi : i < n) (hb : b < 12) (hL : ∀ j, j < i → gI h 102 (f j) = nI (L (f j)) ∧ L (f j) + zS P (bb (f j)) ≤ 39204 * i) (hx : x ≤ 39204 * i) {l2 l3 : Value} {C : Prop} (hC : ∀ w v, aW (d + 2) 182 44 [.ref 65, .int (nI s), l2, l3, .int (nI i), .int (nI b), .int (nI (zS P b)), .int (nI (psF (fun j => shB P o b (bb (f j))) (zS P b) (fun j => L (f j)) (fun j => zS P (bb (f j))) x i)), .int (zB (psF (fun j => shB P o b (bb (f j))) (zS P b) (fun j => L (f j)) (fun j => zS P (bb (f j))) x i != x)), w, v] [] h Q = C) (w v : Value) : aW (d + 2) 182 44 [.ref 65, .int (nI s), l2, l3, .int (nI i), .int (nI b), .int (nI (zS P b)), .int (nI x), .int (nI 1), w, v] [] h Q = C := by
  have hzb := (zS_ok V hb).2
  have loop := for_ds (σ := Value) (F := fun j v => aW (d + 2) 182 55 [.ref 65, .int (nI s), l2, l3, .int (nI i), .int (nI b), .int (nI (zS P b)), .int (nI (psF (fun j => shB P o b (bb (f j))) (zS P b) (fun j => L (f j)) (fun j => zS P (bb (f j))) x j)), .int (zB (psF (fun j => shB P o b (bb (f j))) (zS P b) (fun j => L (f j)) (fun j => zS P (bb (f j))) x j != x)), .int (nI j), v] [] h Q) (R := fun _ => C) i (fun v => by
    rw [s182_55]
    simp (disch := first | omega | assumption | exact gt_65 HM | fail) only [s182_0, s182_1, s182_2, s182_3, s182_5, s182_7, s182_8, s182_11, s182_12, s182_15, s182_17, s182_18, s182_19, s182_20, s182_23, s182_25, s182_26, s182_27, s182_28, s182_30, s182_31, s182_33, s182_36, s182_38, s182_39, s182_41, s182_42, s182_46, s182_49, s182_50, s182_52, s182_53, s182_57, s182_59, s182_62, s182_63, s182_66, s182_68, s182_69, s182_70, s182_71, s182_74, s182_76, s182_77, s182_78, s182_79, s182_81, s182_82, s182_84, s182_86, s182_89, s182_92, s182_94, s182_96, s182_97, s182_100, s182_101, s182_104, s182_106, s182_107, s182_108, s182_109, s182_111, s182_114, s182_117, s182_120, s182_121, s182_124, s182_125, s182_128, s182_130, s182_131, s182_132, s182_133, s182_135, s182_138, s182_139, s182_141, s182_142, s182_144, s182_147, s182_150, s182_154, s182_157, s182_158, s182_161, s182_163, s182_164, s182_166, s182_167, s182_169, s182_171, s182_172, s182_173, s182_176, s182_178, s182_180, s182_181, s182_184, s182_185, s182_186, s182_189, s182_192, s182_193, ai_101 HM, ai_102 HM, ai_96 HM, aj_102 HM, gr_65_44 HM, gr_65_50 HM, gr_65_51 HM, gt_65 HM, am182, isRf_ref, true_and, and_true, aPs_s, aPs_n, b01_0, b01_1, nI_clamp, ix_nI, inb_nI, lt_nI, eq_nI, nn_nI, eq0_nI, pk_mul, nI_add, lt_T, lt_F, if_true, if_false, true_and, and_true, neg1_nI, neg1_lt, neg1_neg, lt_neg1, eqN_F, eq_self,  Nat.lt_irrefl]
    exact hC _ _) (fun j hj ih v => by
    obtain ⟨r1, r2⟩ := R j (by omega)
    obtain ⟨b1, b2⟩ := B (f j) r2
    obtain ⟨g1, g2⟩ := hL j hj
    have h40 : 40 * s + f j < 160 := by omega
    have h6 : f j < 6 := by omega
    have hzo := (zS_ok V b2).2
    have hle : psF (fun j => shB P o b (bb (f j))) (zS P b) (fun j => L (f j)) (fun j => zS P (bb (f j))) x j ≤ 39204 * i := by
      have : ∀ k, k ≤ j → psF (fun j => shB P o b (bb (f j))) (zS P b) (fun j => L (f j)) (fun j => zS P (bb (f j))) x k ≤ 39204 * i := by
        intro k
        induction k with
        | zero => exact fun _ => hx
        | succ k ihk =>
          intro hk
          have := ihk (by omega)
          have := (hL k (by omega)).2
          rw [psF]
          split <;> omega
      exact this j (Nat.le_refl _)
    have c180' : ∀ Q', aM (d + 1) 180 [.ref 65, .int (nI b), .int (nI (bb (f j)))] h Q' = Q' (some (.int (zB (shB P o b (bb (f j)))))) h := fun Q' => c180 HM hP V O hb b2
    have c154' : ∀ Q', aM (d + 1) 154 [.ref 65, .int (nI (bb (f j)))] h Q' = Q' (some (.int (nI (zS P (bb (f j)))))) h := fun Q' => c154n HM hP b2 V
    have c181' : ∀ Q', aM (d + 1) 181 [.int (nI (psF (fun j => shB P o b (bb (f j))) (zS P b) (fun j => L (f j)) (fun j => zS P (bb (f j))) x j)), .int (nI (zS P b)), .int (nI (L (f j))), .int (nI (zS P (bb (f j))))] h Q' = Q' (some (.int (zB (meetB (psF (fun j => shB P o b (bb (f j))) (zS P b) (fun j => L (f j)) (fun j => zS P (bb (f j))) x j) (zS P b) (L (f j)) (zS P (bb (f j))))))) h := fun Q' => c181 (by omega) (by omega)
    have ge := (psF_ge (S := fun j => shB P o b (bb (f j))) (z := zS P b) (L := fun j => L (f j)) (Z := fun j => zS P (bb (f j))) (x := x) (j := j)).2
    have e1 : psF (fun j => shB P o b (bb (f j))) (zS P b) (fun j => L (f j)) (fun j => zS P (bb (f j))) x (j + 1) = if (shB P o b (bb (f j)) && meetB (psF (fun j => shB P o b (bb (f j))) (zS P b) (fun j => L (f j)) (fun j => zS P (bb (f j))) x j) (zS P b) (L (f j)) (zS P (bb (f j)))) = true then L (f j) + zS P (bb (f j)) else psF (fun j => shB P o b (bb (f j))) (zS P b) (fun j => L (f j)) (fun j => zS P (bb (f j))) x j := rfl
    rw [e1] at ih
    generalize psF (fun j => shB P o b (bb (f j))) (zS P b) (fun j => L (f j)) (fun j => zS P (bb (f j))) x j = y at *
    rw [s182_55]
    rcases Bool.eq_false_or_eq_true (shB P o b (bb (f j))) with h1 | h1
    · rcases Bool.eq_false_or_eq_true (meetB y (zS P b) (L (f j)) (zS P (bb (f j)))) with h2 | h2
      · have := (meetB_iff.mp h2).2.2.1
        have e2 : (L (f j) + zS P (bb (f j)) != x) = true := by rw [bne_iff_ne]; omega
        simp only [h1, h2, Bool.not_false, Bool.not_true, Bool.true_and, Bool.false_and, Bool.and_true, Bool.and_false, Bool.or_true, Bool.or_false, Bool.true_or, Bool.false_or, Bool.true_eq_false, Bool.false_eq_true, if_true, if_false, Option.isSome_some, Option.isSome_none, Option.isNone_some, Option.isNone_none, zB_t, zB_f, nI1_0, nI0_0, e2] at ih
        simp (disch := first | omega | assumption | exact gt_65 HM | fail) only [s182_0, s182_1, s182_2, s182_3, s182_5, s182_7, s182_8, s182_11, s182_12, s182_15, s182_17, s182_18, s182_19, s182_20, s182_23, s182_25, s182_26, s182_27, s182_28, s182_30, s182_31, s182_33, s182_36, s182_38, s182_39, s182_41, s182_42, s182_46, s182_49, s182_50, s182_52, s182_53, s182_57, s182_59, s182_62, s182_63, s182_66, s182_68, s182_69, s182_70, s182_71, s182_74, s182_76, s182_77, s182_78, s182_79, s182_81, s182_82, s182_84, s182_86, s182_89, s182_92, s182_94, s182_96, s182_97, s182_100, s182_101, s182_104, s182_106, s182_107, s182_108, s182_109, s182_111, s182_114, s182_117, s182_120, s182_121, s182_124, s182_125, s182_128, s182_130, s182_131, s182_132, s182_133, s182_135, s182_138, s182_139, s182_141, s182_142, s182_144, s182_147, s182_150, s182_154, s182_157, s182_158, s182_161, s182_163, s182_164, s182_166, s182_167, s182_169, s182_171, s182_172, s182_173, s182_176, s182_178, s182_180, s182_181, s182_184, s182_185, s182_186, s182_189, s182_192, s182_193, ai_101 HM, ai_102 HM, ai_96 HM, aj_102 HM, gr_65_44 HM, gr_65_50 HM, gr_65_51 HM, gt_65 HM, am182, isRf_ref, true_and, and_true, aPs_s, aPs_n, b01_0, b01_1, nI_clamp, ix_nI, inb_nI, lt_nI, eq_nI, nn_nI, eq0_nI, pk_mul, nI_add, lt_T, lt_F, if_true, if_false, true_and, and_true, neg1_nI, neg1_lt, neg1_neg, lt_neg1, eqN_F, eq_self,  r1, b1, g1, c180', c154', c181', h1, h2, Bool.not_false, Bool.not_true, Bool.true_and, Bool.false_and, Bool.and_true, Bool.and_false, Bool.or_true, Bool.or_false, Bool.true_or, Bool.false_or, Bool.true_eq_false, Bool.false_eq_true, if_true, if_false, Option.isSome_some, Option.isSome_none, Option.isNone_some, Option.isNone_none, zB_t, zB_f, nI1_0, nI0_0, ih]
      · simp only [h1, h2, Bool.not_false, Bool.not_true, Bool.true_and, Bool.false_and, Bool.and_true, Bool.and_false, Bool.or_true, Bool.or_false, Bool.true_or, Bool.false_or, Bool.true_eq_false, Bool.false_eq_true, if_true, if_false, Option.isSome_some, Option.isSome_none, Option.isNone_some, Option.isNone_none, zB_t, zB_f, nI1_0, nI0_0] at ih
        simp (disch := first | omega | assumption | exact gt_65 HM | fail) only [s182_0, s182_1, s182_2, s182_3, s182_5, s182_7, s182_8, s182_11, s182_12, s182_15, s182_17, s182_18, s182_19, s182_20, s182_23, s182_25, s182_26, s182_27, s182_28, s182_30, s182_31, s182_33, s182_36, s182_38, s182_39, s182_41, s182_42, s182_46, s182_49, s182_50, s182_52, s182_53, s182_57, s182_59, s182_62, s182_63, s182_66, s182_68, s182_69, s182_70, s182_71, s182_74, s182_76, s182_77, s182_78, s182_79, s182_81, s182_82, s182_84, s182_86, s182_89, s182_92, s182_94, s182_96, s182_97, s182_100, s182_101, s182_104, s182_106, s182_107, s182_108, s182_109, s182_111, s182_114, s182_117, s182_120, s182_121, s182_124, s182_125, s182_128, s182_130, s182_131, s182_132, s182_133, s182_135, s182_138, s182_139, s182_141, s182_142, s182_144, s182_147, s182_150, s182_154, s182_157, s182_158, s182_161, s182_163, s182_164, s182_166, s182_167, s182_169, s182_171, s182_172, s182_173, s182_176, s182_178, s182_180, s182_181, s182_184, s182_185, s182_186, s182_189, s182_192, s182_193, ai_101 HM, ai_102 HM, ai_96 HM, aj_102 HM, gr_65_44 HM, gr_65_50 HM, gr_65_51 HM, gt_65 HM, am182, isRf_ref, true_and, and_true, aPs_s, aPs_n, b01_0, b01_1, nI_clamp, ix_nI, inb_nI, lt_nI, eq_nI, nn_nI, eq0_nI, pk_mul, nI_add, lt_T, lt_F, if_true, if_false, true_and, and_true, neg1_nI, neg1_lt, neg1_neg, lt_neg1, eqN_F, eq_self,  r1, b1, g1, c180', c154', c181', h1, h2, Bool.not_false, Bool.not_true, Bool.true_and, Bool.false_and, Bool.and_true, Bool.and_false, Bool.or_true, Bool.or_false, Bool.true_or, Bool.false_or, Bool.true_eq_false, Bool.false_eq_true, if_true, if_false, Option.isSome_some, Option.isSome_none, Option.isNone_some, Option.isNone_none, zB_t, zB_f, nI1_0, nI0_0, ih]
    · simp only [h1, Bool.not_false, Bool.not_true, Bool.true_and, Bool.false_and, Bool.and_true, Bool.and_false, Bool.or_true, Bool.or_false, Bool.true_or, Bool.false_or, Bool.true_eq_false, Bool.false_eq_true, if_true, if_false, Option.isSome_some, Option.isSome_none, Option.isNone_some, Option.isNone_none, zB_t, zB_f, nI1_0, nI0_0] at ih
      simp (disch := first | omega | assumption | exact gt_65 HM | fail) only [s182_0, s182_1, s182_2, s182_3, s182_5, s182_7, s182_8, s182_11, s182_12, s182_15, s182_17, s182_18, s182_19, s182_20, s182_23, s182_25, s182_26, s182_27, s182_28, s182_30, s182_31, s182_33, s182_36, s182_38, s182_39, s182_41, s182_42, s182_46, s182_49, s182_50, s182_52, s182_53, s182_57, s182_59, s182_62, s182_63, s182_66, s182_68, s182_69, s182_70, s182_71, s182_74, s182_76, s182_77, s182_78, s182_79, s182_81, s182_82, s182_84, s182_86, s182_89, s182_92, s182_94, s182_96, s182_97, s182_100, s182_101, s182_104, s182_106, s182_107, s182_108, s182_109, s182_111, s182_114, s182_117, s182_120, s182_121, s182_124, s182_125, s182_128, s182_130, s182_131, s182_132, s182_133, s182_135, s182_138, s182_139, s182_141, s182_142, s182_144, s182_147, s182_150, s182_154, s182_157, s182_158, s182_161, s182_163, s182_164, s182_166, s182_167, s182_169, s182_171, s182_172, s182_173, s182_176, s182_178, s182_180, s182_181, s182_184, s182_185, s182_186, s182_189, s182_192, s182_193, ai_101 HM, ai_102 HM, ai_96 HM, aj_102 HM, gr_65_44 HM, gr_65_50 HM, gr_65_51 HM, gt_65 HM, am182, isRf_ref, true_and, and_true, aPs_s, aPs_n, b01_0, b01_1, nI_clamp, ix_nI, inb_nI, lt_nI, eq_nI, nn_nI, eq0_nI, pk_mul, nI_add, lt_T, lt_F, if_true, if_false, true_and, and_true, neg1_nI, neg1_lt, neg1_neg, lt_neg1, eqN_F, eq_self,  r1, b1, g1, c180', c154', c181', h1, Bool.not_false, Bool.not_true, Bool.true_and, Bool.false_and, Bool.and_true, Bool.and_false, Bool.or_true, Bool.or_false, Bool.true_or, Bool.false_or, Bool.true_eq_false, Bool.false_eq_true, if_true, if_false, Option.isSome_some, Option.isSome_none, Option.isNone_some, Option.isNone_none, zB_t, zB_f, nI1_0, nI0_0, ih])
  rw [s182_44]
  simp (disch := first | omega | assumption | exact gt_65 HM | fail) only [s182_0, s182_1, s182_2, s182_3, s182_5, s182_7, s182_8, s182_11, s182_12, s182_15, s182_17, s182_18, s182_19, s182_20, s182_23, s182_25, s182_26, s182_27, s182_28, s182_30, s182_31, s182_33, s182_36, s182_38, s182_39, s182_41, s182_42, s182_46, s182_49, s182_50, s182_52, s182_53, s182_57, s182_59, s182_62, s182_63, s182_66, s182_68, s182_69, s182_70, s182_71, s182_74, s182_76, s182_77, s182_78, s182_79, s182_81, s182_82, s182_84, s182_86, s182_89, s182_92, s182_94, s182_96, s182_97, s182_100, s182_101, s182_104, s182_106, s182_107, s182_108, s182_109, s182_111, s182_114, s182_117, s182_120, s182_121, s182_124, s182_125, s182_128, s182_130, s182_131, s182_132, s182_133, s182_135, s182_138, s182_139, s182_141, s182_142, s182_144, s182_147, s182_150, s182_154, s182_157, s182_158, s182_161, s182_163, s182_164, s182_166, s182_167, s182_169, s182_171, s182_172, s182_173, s182_176, s182_178, s182_180, s182_181, s182_184, s182_185, s182_186, s182_189, s182_192, s182_193, ai_101 HM, ai_102 HM, ai_96 HM, aj_102 HM, gr_65_44 HM, gr_65_50 HM, gr_65_51 HM, gt_65 HM, am182, isRf_ref, true_and, and_true, aPs_s, aPs_n, b01_0, b01_1, nI_clamp, ix_nI, inb_nI, lt_nI, eq_nI, nn_nI, eq0_nI, pk_mul, nI_add, lt_T, lt_F, if_true, if_false, true_and, and_true, neg1_nI, neg1_lt, neg1_neg, lt_neg1, eqN_F, eq_self, ]
  have l0 := loop 0 (Nat.zero_le _) v
  have e : (psF (fun j => shB P o b (bb (f j))) (zS P b) (fun j => L (f j)) (fun j => zS P (bb (f j))) x 0 != x) = false := by
    rw [psF]; simp
  simp only [e, zB_f] at l0
  exact l0
set_option maxHeartbeats 4000000 in
/-- all passes -/
theorem c182_44 (HM : KM h) {P : Nat → Nat → Int32} (hP : pv h = P) (V : okP P) {o bb f L : Nat → Nat} (O : ovH h P o) {s n i b : Nat} (hs : s < 4) (hn : n ≤ 6) (B : shH h s n bb) (R : rwH h n f) (hi : i < n) (hb : b < 12) (hL : ∀ j, j < i → gI h 102 (f j) = nI (L (f j)) ∧ L (f j) + zS P (bb (f j)) ≤ 39204 * i) {l2 l3 : Value} {C : Prop} (hC : ∀ w v, aW (d + 2) 182 153 [.ref 65, .int (nI s), l2, l3, .int (nI i), .int (nI b), .int (nI (zS P b)), .int (nI (lwX (fun j => shB P o b (bb (f j))) (zS P b) (fun j => L (f j)) (fun j => zS P (bb (f j))) i)), .int (nI 0), w, v] [] h Q = C) : ∀ (m x : Nat) (w v : Value), x + m = lwX (fun j => shB P o b (bb (f j))) (zS P b) (fun j => L (f j)) (fun j => zS P (bb (f j))) i → aW (d + 2) 182 44 [.ref 65, .int (nI s), l2, l3, .int (nI i), .int (nI b), .int (nI (zS P b)), .int (nI x), .int (nI 1), w, v] [] h Q = C := by
  obtain ⟨w1, w2, w3⟩ := lwX_ok (S := fun j => shB P o b (bb (f j))) (z := zS P b) (L := fun j => L (f j)) (Z := fun j => zS P (bb (f j))) (n := i) (B := 39204 * i) (fun j hj => (hL j hj).2) (by omega)
  generalize hX : lwX (fun j => shB P o b (bb (f j))) (zS P b) (fun j => L (f j)) (fun j => zS P (bb (f j))) i = X at *
  intro m
  induction m using Nat.strongRecOn with
  | ind m ih =>
    intro x w v hm
    refine c182_55 HM hP V O hs hn B R hi hb hL (show x ≤ 39204 * i by omega) (fun w v => ?_) w v
    have ge := (psF_ge (S := fun j => shB P o b (bb (f j))) (z := zS P b) (L := fun j => L (f j)) (Z := fun j => zS P (bb (f j))) (x := x) (j := i)).2
    have le := psF_le w1 (show x ≤ X by omega) (Nat.le_refl i)
    have eq := psF_eq (S := fun j => shB P o b (bb (f j))) (z := zS P b) (L := fun j => L (f j)) (Z := fun j => zS P (bb (f j))) (n := i) (x := x)
    generalize psF (fun j => shB P o b (bb (f j))) (zS P b) (fun j => L (f j)) (fun j => zS P (bb (f j))) x i = y at *
    by_cases e : y = x
    · have h1 := w3 x (eq e)
      have h2 : x = X := by omega
      have e2 : (y != x) = false := by rw [e]; simp
      rw [e2, zB_f, s182_44]
      subst e
      rw [h2]
      simp (disch := first | omega | assumption | exact gt_65 HM | fail) only [s182_0, s182_1, s182_2, s182_3, s182_5, s182_7, s182_8, s182_11, s182_12, s182_15, s182_17, s182_18, s182_19, s182_20, s182_23, s182_25, s182_26, s182_27, s182_28, s182_30, s182_31, s182_33, s182_36, s182_38, s182_39, s182_41, s182_42, s182_46, s182_49, s182_50, s182_52, s182_53, s182_57, s182_59, s182_62, s182_63, s182_66, s182_68, s182_69, s182_70, s182_71, s182_74, s182_76, s182_77, s182_78, s182_79, s182_81, s182_82, s182_84, s182_86, s182_89, s182_92, s182_94, s182_96, s182_97, s182_100, s182_101, s182_104, s182_106, s182_107, s182_108, s182_109, s182_111, s182_114, s182_117, s182_120, s182_121, s182_124, s182_125, s182_128, s182_130, s182_131, s182_132, s182_133, s182_135, s182_138, s182_139, s182_141, s182_142, s182_144, s182_147, s182_150, s182_154, s182_157, s182_158, s182_161, s182_163, s182_164, s182_166, s182_167, s182_169, s182_171, s182_172, s182_173, s182_176, s182_178, s182_180, s182_181, s182_184, s182_185, s182_186, s182_189, s182_192, s182_193, ai_101 HM, ai_102 HM, ai_96 HM, aj_102 HM, gr_65_44 HM, gr_65_50 HM, gr_65_51 HM, gt_65 HM, am182, isRf_ref, true_and, and_true, aPs_s, aPs_n, b01_0, b01_1, nI_clamp, ix_nI, inb_nI, lt_nI, eq_nI, nn_nI, eq0_nI, pk_mul, nI_add, lt_T, lt_F, if_true, if_false, true_and, and_true, neg1_nI, neg1_lt, neg1_neg, lt_neg1, eqN_F, eq_self, ]
      exact hC _ _
    · have e2 : (y != x) = true := by rw [bne_iff_ne]; exact e
      rw [e2, zB_t]
      exact ih (X - y) (by omega) y w v (by omega)
def lyH (P : Nat → Nat → Int32) (h : abH) (o bb f : Nat → Nat) (i : Nat) : abH := pA h 102 (lyA P o bb f (gI h 102) i)
set_option maxHeartbeats 4000000 in
theorem c182 (HM : KM h) {P : Nat → Nat → Int32} (hP : pv h = P) (V : okP P) {o bb f : Nat → Nat} (O : ovH h P o) {s n : Nat} (hs : s < 4) (hn : n ≤ 6) (B : shH h s n bb) (R : rwH h n f) : aM (d + 2) 182 [.ref 65, .int (nI s), .int (nI n)] h Q = Q (some (.int (nI (lyT P o bb f n)))) (lyH P h o bb f n) := by
  have hf : ∀ i, i < n → bb (f i) < 12 := fun i hi => (B (f i) (R i hi).2).2
  have ok := fun i (hi : i ≤ n) => ly_ok V (o := o) (g := gI h 102) hn hf hi
  have loop := for_ds (σ := Value × Value × Value × Value × Value × Value) (F := fun i v => aW (d + 2) 182 5 [.ref 65, .int (nI s), .int (nI n), .int (nI (lyT P o bb f i)), .int (nI i), v.1, v.2.1, v.2.2.1, v.2.2.2.1, v.2.2.2.2.1, v.2.2.2.2.2] [] (lyH P h o bb f i) Q) (R := fun _ => Q (some (.int (nI (lyT P o bb f n)))) (lyH P h o bb f n)) n (fun v => by
    rw [s182_5]
    simp (disch := first | omega | assumption | exact gt_65 HM | fail) only [s182_0, s182_1, s182_2, s182_3, s182_7, s182_8, s182_11, s182_12, s182_15, s182_17, s182_18, s182_19, s182_20, s182_23, s182_25, s182_26, s182_27, s182_28, s182_30, s182_31, s182_33, s182_36, s182_38, s182_39, s182_41, s182_42, s182_46, s182_49, s182_50, s182_52, s182_53, s182_57, s182_59, s182_62, s182_63, s182_66, s182_68, s182_69, s182_70, s182_71, s182_74, s182_76, s182_77, s182_78, s182_79, s182_81, s182_82, s182_84, s182_86, s182_89, s182_92, s182_94, s182_96, s182_97, s182_100, s182_101, s182_104, s182_106, s182_107, s182_108, s182_109, s182_111, s182_114, s182_117, s182_120, s182_121, s182_124, s182_125, s182_128, s182_130, s182_131, s182_132, s182_133, s182_135, s182_138, s182_139, s182_141, s182_142, s182_144, s182_147, s182_150, s182_154, s182_157, s182_158, s182_161, s182_163, s182_164, s182_166, s182_167, s182_169, s182_171, s182_172, s182_173, s182_176, s182_178, s182_180, s182_181, s182_184, s182_185, s182_186, s182_189, s182_192, s182_193, ai_101 HM, ai_102 HM, ai_96 HM, aj_102 HM, gr_65_44 HM, gr_65_50 HM, gr_65_51 HM, gt_65 HM, am182, isRf_ref, true_and, and_true, aPs_s, aPs_n, b01_0, b01_1, nI_clamp, ix_nI, inb_nI, lt_nI, eq_nI, nn_nI, eq0_nI, pk_mul, nI_add, lt_T, lt_F, if_true, if_false, true_and, and_true, neg1_nI, neg1_lt, neg1_neg, lt_neg1, eqN_F, eq_self,  Nat.lt_irrefl]) (fun i hi ih v => by
    obtain ⟨k1, k2⟩ := ok i (by omega)
    obtain ⟨r1, r2⟩ := R i hi
    obtain ⟨b1, b2⟩ := B (f i) r2
    have hz := (zS_ok V b2).2
    have HM2 : KM (lyH P h o bb f i) := HM
    have hp2 : pv (lyH P h o bb f i) = P := by unfold lyH; rw [pv_pA (by omega), hP]
    have O2 : ovH (lyH P h o bb f i) P o := O
    have B2 : shH (lyH P h o bb f i) s n bb := B
    have R2 : rwH (lyH P h o bb f i) n f := R
    have hL2 : ∀ j, j < i → gI (lyH P h o bb f i) 102 (f j) = nI (lyL P o bb f i (f j)) ∧ lyL P o bb f i (f j) + zS P (bb (f j)) ≤ 39204 * i := by
      intro j hj
      unfold lyH
      rw [gI_eq]
      exact k1 j hj
    have r1' : gI (lyH P h o bb f i) 101 i = nI (f i) := r1
    have b1' : gI (lyH P h o bb f i) 96 (40 * s + f i) = nI (bb (f i)) := b1
    have c154' : ∀ Q', aM (d + 1) 154 [.ref 65, .int (nI (bb (f i)))] (lyH P h o bb f i) Q' = Q' (some (.int (nI (zS P (bb (f i)))))) (lyH P h o bb f i) := fun Q' => c154n HM2 hp2 b2 V
    have h40 : 40 * s + f i < 160 := by omega
    have h6 : f i < 6 := by omega
    have hx := (lwX_ok (S := fun j => shB P o (bb (f i)) (bb (f j))) (z := zS P (bb (f i))) (L := fun j => lyL P o bb f i (f j)) (Z := fun j => zS P (bb (f j))) (n := i) (B := 39204 * i) (fun j hj => (k1 j hj).2) (by omega)).2.1
    have hx : lyX P o bb f i (lyL P o bb f i) ≤ 39204 * i := hx
    have up : pI (lyH P h o bb f i) 102 (f i) (nI (lyX P o bb f i (lyL P o bb f i))) = lyH P h o bb f (i + 1) := by
      unfold lyH
      rw [pI_pA]
      rfl
    rw [s182_5]
    simp (disch := first | omega | assumption | exact gt_65 HM2 | fail) only [s182_0, s182_1, s182_2, s182_3, s182_7, s182_8, s182_11, s182_12, s182_15, s182_17, s182_18, s182_19, s182_20, s182_23, s182_25, s182_26, s182_27, s182_28, s182_30, s182_31, s182_33, s182_36, s182_38, s182_39, s182_41, s182_42, s182_46, s182_49, s182_50, s182_52, s182_53, s182_57, s182_59, s182_62, s182_63, s182_66, s182_68, s182_69, s182_70, s182_71, s182_74, s182_76, s182_77, s182_78, s182_79, s182_81, s182_82, s182_84, s182_86, s182_89, s182_92, s182_94, s182_96, s182_97, s182_100, s182_101, s182_104, s182_106, s182_107, s182_108, s182_109, s182_111, s182_114, s182_117, s182_120, s182_121, s182_124, s182_125, s182_128, s182_130, s182_131, s182_132, s182_133, s182_135, s182_138, s182_139, s182_141, s182_142, s182_144, s182_147, s182_150, s182_154, s182_157, s182_158, s182_161, s182_163, s182_164, s182_166, s182_167, s182_169, s182_171, s182_172, s182_173, s182_176, s182_178, s182_180, s182_181, s182_184, s182_185, s182_186, s182_189, s182_192, s182_193, ai_101 HM2, ai_102 HM2, ai_96 HM2, aj_102 HM2, gr_65_44 HM2, gr_65_50 HM2, gr_65_51 HM2, gt_65 HM2, am182, isRf_ref, true_and, and_true, aPs_s, aPs_n, b01_0, b01_1, nI_clamp, ix_nI, inb_nI, lt_nI, eq_nI, nn_nI, eq0_nI, pk_mul, nI_add, lt_T, lt_F, if_true, if_false, true_and, and_true, neg1_nI, neg1_lt, neg1_neg, lt_neg1, eqN_F, eq_self,  r1', b1', c154']
    refine c182_44 HM2 hp2 V O2 hs hn B2 R2 hi b2 hL2 (fun w v => ?_) _ 0 _ _ (Nat.zero_add _)
    have ih2 := fun w v => ih (.int (nI (bb (f i))), .int (nI (zS P (bb (f i)))), .int (nI (lyX P o bb f i (lyL P o bb f i))), .int (nI 0), w, v)
    simp only [lyT] at ih2
    rw [s182_153, show lwX (fun j => shB P o (bb (f i)) (bb (f j))) (zS P (bb (f i))) (fun j => lyL P o bb f i (f j)) (fun j => zS P (bb (f j))) i = lyX P o bb f i (lyL P o bb f i) from rfl]
    by_cases h5 : lyT P o bb f i < lyX P o bb f i (lyL P o bb f i) + zS P (bb (f i))
    · simp only [h5, if_true] at ih2
      simp (disch := first | omega | assumption | exact gt_65 HM2 | fail) only [s182_0, s182_1, s182_2, s182_3, s182_7, s182_8, s182_11, s182_12, s182_15, s182_17, s182_18, s182_19, s182_20, s182_23, s182_25, s182_26, s182_27, s182_28, s182_30, s182_31, s182_33, s182_36, s182_38, s182_39, s182_41, s182_42, s182_46, s182_49, s182_50, s182_52, s182_53, s182_57, s182_59, s182_62, s182_63, s182_66, s182_68, s182_69, s182_70, s182_71, s182_74, s182_76, s182_77, s182_78, s182_79, s182_81, s182_82, s182_84, s182_86, s182_89, s182_92, s182_94, s182_96, s182_97, s182_100, s182_101, s182_104, s182_106, s182_107, s182_108, s182_109, s182_111, s182_114, s182_117, s182_120, s182_121, s182_124, s182_125, s182_128, s182_130, s182_131, s182_132, s182_133, s182_135, s182_138, s182_139, s182_141, s182_142, s182_144, s182_147, s182_150, s182_154, s182_157, s182_158, s182_161, s182_163, s182_164, s182_166, s182_167, s182_169, s182_171, s182_172, s182_173, s182_176, s182_178, s182_180, s182_181, s182_184, s182_185, s182_186, s182_189, s182_192, s182_193, ai_101 HM2, ai_102 HM2, ai_96 HM2, aj_102 HM2, gr_65_44 HM2, gr_65_50 HM2, gr_65_51 HM2, gt_65 HM2, am182, isRf_ref, true_and, and_true, aPs_s, aPs_n, b01_0, b01_1, nI_clamp, ix_nI, inb_nI, lt_nI, eq_nI, nn_nI, eq0_nI, pk_mul, nI_add, lt_T, lt_F, if_true, if_false, true_and, and_true, neg1_nI, neg1_lt, neg1_neg, lt_neg1, eqN_F, eq_self,  r1', up, h5, ih2]
    · simp only [h5, if_false] at ih2
      simp (disch := first | omega | assumption | exact gt_65 HM2 | fail) only [s182_0, s182_1, s182_2, s182_3, s182_7, s182_8, s182_11, s182_12, s182_15, s182_17, s182_18, s182_19, s182_20, s182_23, s182_25, s182_26, s182_27, s182_28, s182_30, s182_31, s182_33, s182_36, s182_38, s182_39, s182_41, s182_42, s182_46, s182_49, s182_50, s182_52, s182_53, s182_57, s182_59, s182_62, s182_63, s182_66, s182_68, s182_69, s182_70, s182_71, s182_74, s182_76, s182_77, s182_78, s182_79, s182_81, s182_82, s182_84, s182_86, s182_89, s182_92, s182_94, s182_96, s182_97, s182_100, s182_101, s182_104, s182_106, s182_107, s182_108, s182_109, s182_111, s182_114, s182_117, s182_120, s182_121, s182_124, s182_125, s182_128, s182_130, s182_131, s182_132, s182_133, s182_135, s182_138, s182_139, s182_141, s182_142, s182_144, s182_147, s182_150, s182_154, s182_157, s182_158, s182_161, s182_163, s182_164, s182_166, s182_167, s182_169, s182_171, s182_172, s182_173, s182_176, s182_178, s182_180, s182_181, s182_184, s182_185, s182_186, s182_189, s182_192, s182_193, ai_101 HM2, ai_102 HM2, ai_96 HM2, aj_102 HM2, gr_65_44 HM2, gr_65_50 HM2, gr_65_51 HM2, gt_65 HM2, am182, isRf_ref, true_and, and_true, aPs_s, aPs_n, b01_0, b01_1, nI_clamp, ix_nI, inb_nI, lt_nI, eq_nI, nn_nI, eq0_nI, pk_mul, nI_add, lt_T, lt_F, if_true, if_false, true_and, and_true, neg1_nI, neg1_lt, neg1_neg, lt_neg1, eqN_F, eq_self,  r1', up, h5, ih2])
  simp (disch := first | omega | assumption | exact gt_65 HM | fail) only [s182_0, s182_1, s182_2, s182_3, s182_7, s182_8, s182_11, s182_12, s182_15, s182_17, s182_18, s182_19, s182_20, s182_23, s182_25, s182_26, s182_27, s182_28, s182_30, s182_31, s182_33, s182_36, s182_38, s182_39, s182_41, s182_42, s182_46, s182_49, s182_50, s182_52, s182_53, s182_57, s182_59, s182_62, s182_63, s182_66, s182_68, s182_69, s182_70, s182_71, s182_74, s182_76, s182_77, s182_78, s182_79, s182_81, s182_82, s182_84, s182_86, s182_89, s182_92, s182_94, s182_96, s182_97, s182_100, s182_101, s182_104, s182_106, s182_107, s182_108, s182_109, s182_111, s182_114, s182_117, s182_120, s182_121, s182_124, s182_125, s182_128, s182_130, s182_131, s182_132, s182_133, s182_135, s182_138, s182_139, s182_141, s182_142, s182_144, s182_147, s182_150, s182_154, s182_157, s182_158, s182_161, s182_163, s182_164, s182_166, s182_167, s182_169, s182_171, s182_172, s182_173, s182_176, s182_178, s182_180, s182_181, s182_184, s182_185, s182_186, s182_189, s182_192, s182_193, ai_101 HM, ai_102 HM, ai_96 HM, aj_102 HM, gr_65_44 HM, gr_65_50 HM, gr_65_51 HM, gt_65 HM, am182, isRf_ref, true_and, and_true, aPs_s, aPs_n, b01_0, b01_1, nI_clamp, ix_nI, inb_nI, lt_nI, eq_nI, nn_nI, eq0_nI, pk_mul, nI_add, lt_T, lt_F, if_true, if_false, true_and, and_true, neg1_nI, neg1_lt, neg1_neg, lt_neg1, eqN_F, eq_self, ]
  have l0 := loop 0 (Nat.zero_le _) (.retAddr 0, .retAddr 0, .retAddr 0, .retAddr 0, .retAddr 0, .retAddr 0)
  have e0 : lyH P h o bb f 0 = h := by unfold lyH; rw [lyA, pA_self]
  rw [e0] at l0
  exact l0
end M13
