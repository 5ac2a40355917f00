/-! THE REFERENCE: the next row -/
def lst1 (p : Nat → Bool) : Nat → Option Nat
  | 0 => none
  | n + 1 => if p n = true then some n else lst1 p n
theorem lst1_lt {p : Nat → Bool} : ∀ {n j : Nat}, lst1 p n = some j → j < n ∧ p j = true := by
  intro n
  induction n with
  | zero => intro j h; cases h
  | succ n ih =>
    intro j h
    rw [lst1] at h
    split at h
    · rename_i hp; cases h; exact ⟨by omega, hp⟩
    · obtain ⟨a, b⟩ := ih h; exact ⟨by omega, b⟩
def swp (f : Nat → Nat) (i j : Nat) : Nat → Nat := fun k => if k = j then f i else if k = i then f j else f k
def rvs (f : Nat → Nat) (lo hi : Nat) : Nat → Nat := fun k => if lo ≤ k ∧ k ≤ hi then f (lo + hi - k) else f k
def rvN (f : Nat → Nat) (lo hi t : Nat) : Nat → Nat := fun k => if lo ≤ k ∧ k < lo + t ∨ hi < k + t ∧ k ≤ hi then f (lo + hi - k) else f k
/-- the next row, if there is one -/
def nxR (f : Nat → Nat) (n : Nat) : Option (Nat → Nat) := match lst1 (fun i => decide (¬ f (i + 1) < f i)) (n - 1) with
  | none => none
  | some i => some (rvs (swp f i ((lst1 (fun j => decide (¬ f j < f i)) n).getD 0)) (i + 1) (n - 1))
section M14
variable {d : Nat} {h : abH} {Q : Option Value → abH → Prop}
def rowI (f : Nat → Nat) (g : Nat → Int32) (n : Nat) : Nat → Int32 := fun k => if k < n then nI (f k) else g k
set_option maxHeartbeats 4000000 in
theorem c183_108 (HM : KM h) {f : Nat → Nat} {n i : Nat} (hn : n ≤ 6) (hi : i + 1 < n) {l2 l3 l4 : Value} : ∀ {m t : Nat} {l7 : Value}, 2 * (t + m) ≤ n - 1 - i → n - 1 - i ≤ 2 * (t + m) + 1 → aW (d + 1) 183 108 [.ref 65, .int (nI n), l2, l3, l4, .int (nI (n - 1 - t)), .int (nI (i + 1 + t)), l7] [] (pA h 101 (rowI (rvN f (i + 1) (n - 1) t) (gI h 101) n)) Q = Q (some (.int (nI 1))) (pA h 101 (rowI (rvs f (i + 1) (n - 1)) (gI h 101) n)) := by
  intro m
  induction m with
  | zero =>
    intro t l7 h1 h2
    have HM2 : KM (pA h 101 (rowI (rvN f (i + 1) (n - 1) t) (gI h 101) n)) := HM
    have hab : ¬ i + 1 + t < n - 1 - t := by omega
    rw [s183_108]
    simp (disch := first | omega | assumption | exact gt_65 HM2 | fail) only [s183_0, s183_1, s183_2, s183_3, s183_5, s183_8, s183_9, s183_12, s183_13, s183_16, s183_17, s183_20, s183_21, s183_22, s183_23, s183_26, s183_27, s183_28, s183_29, s183_30, s183_33, s183_36, s183_39, s183_40, s183_43, s183_44, s183_45, s183_46, s183_47, s183_48, s183_50, s183_53, s183_54, s183_55, s183_56, s183_59, s183_60, s183_61, s183_64, s183_67, s183_70, s183_71, s183_74, s183_75, s183_76, s183_78, s183_79, s183_82, s183_83, s183_84, s183_87, s183_88, s183_89, s183_90, s183_91, s183_94, s183_95, s183_97, s183_98, s183_99, s183_100, s183_101, s183_103, s183_104, s183_105, s183_106, s183_110, s183_112, s183_115, s183_116, s183_119, s183_121, s183_122, s183_124, s183_125, s183_128, s183_130, s183_131, s183_134, s183_136, s183_137, s183_138, s183_139, s183_142, s183_144, s183_146, s183_147, s183_150, s183_153, s183_156, s183_157, ai_101 HM2, aj_101 HM2, gr_65_50 HM2, gt_65 HM2, am183, isRf_ref, true_and, and_true, aPs_s, aPs_n, b01_0, b01_1, nI_clamp, ix_nI, inb_nI, lt_nI, eq_nI, nn_nI, eq0_nI, pk_mul, nI_add, lt_T, lt_F, if_true, if_false, true_and, and_true, neg1_nI, neg1_lt, neg1_neg, lt_neg1, eqN_F, eq_self,  hab, b01_1]
    have e : rowI (rvN f (i + 1) (n - 1) t) (gI h 101) n = rowI (rvs f (i + 1) (n - 1)) (gI h 101) n := by
      funext k
      unfold rowI rvN rvs
      by_cases hk : k < n
      · simp only [hk, if_true]
        by_cases h3 : i + 1 ≤ k ∧ k < i + 1 + t ∨ n - 1 < k + t ∧ k ≤ n - 1
        · rw [if_pos h3, if_pos (by omega)]
        · rw [if_neg h3]
          by_cases h4 : i + 1 ≤ k ∧ k ≤ n - 1
          · rw [if_pos h4, show i + 1 + (n - 1) - k = k by omega]
          · rw [if_neg h4]
      · simp only [hk, if_false]
    rw [e]
  | succ m ih =>
    intro t l7 h1 h2
    have HM2 : KM (pA h 101 (rowI (rvN f (i + 1) (n - 1) t) (gI h 101) n)) := HM
    have hab : i + 1 + t < n - 1 - t := by omega
    have ha : i + 1 + t < n := by omega
    have hb : n - 1 - t < n := by omega
    have ha6 : i + 1 + t < 6 := by omega
    have hb6 : n - 1 - t < 6 := by omega
    have ga : gI (pA h 101 (rowI (rvN f (i + 1) (n - 1) t) (gI h 101) n)) 101 (i + 1 + t) = nI (f (i + 1 + t)) := by
      rw [gI_eq]
      unfold rowI rvN
      rw [if_pos ha, if_neg (by omega)]
    have gb : gI (pA h 101 (rowI (rvN f (i + 1) (n - 1) t) (gI h 101) n)) 101 (n - 1 - t) = nI (f (n - 1 - t)) := by
      rw [gI_eq]
      unfold rowI rvN
      rw [if_pos hb, if_neg (by omega)]
    have st : pI (pI (pA h 101 (rowI (rvN f (i + 1) (n - 1) t) (gI h 101) n)) 101 (i + 1 + t) (nI (f (n - 1 - t)))) 101 (n - 1 - t) (nI (f (i + 1 + t))) = pA h 101 (rowI (rvN f (i + 1) (n - 1) (t + 1)) (gI h 101) n) := by
      rw [pI_pA, pI_pA]
      congr 1
      funext k
      unfold upd rowI rvN
      by_cases k1 : k = n - 1 - t
      · rw [if_pos k1, if_pos (by omega), if_pos (by omega)]
        congr 2
        omega
      · rw [if_neg k1]
        by_cases k2 : k = i + 1 + t
        · rw [if_pos k2, if_pos (by omega), if_pos (by omega)]
          congr 2
          omega
        · rw [if_neg k2]
          by_cases k3 : k < n
          · rw [if_pos k3, if_pos k3]
            by_cases k4 : i + 1 ≤ k ∧ k < i + 1 + t ∨ n - 1 < k + t ∧ k ≤ n - 1
            · rw [if_pos k4, if_pos (by omega)]
            · rw [if_neg k4, if_neg (by omega)]
          · rw [if_neg k3, if_neg k3]
    have HM3 : KM (pI (pA h 101 (rowI (rvN f (i + 1) (n - 1) t) (gI h 101) n)) 101 (i + 1 + t) (nI (f (n - 1 - t)))) := HM
    have t65b := gt_65 HM3
    have em : nI (n - 1 - t) + (-1) = nI (n - 1 - (t + 1)) := by
      rw [show n - 1 - t = n - 1 - (t + 1) + 1 by omega]
      exact iinc_m1 (by omega)
    rw [s183_108]
    simp (disch := first | omega | assumption | exact gt_65 HM2 | fail) only [s183_0, s183_1, s183_2, s183_3, s183_5, s183_8, s183_9, s183_12, s183_13, s183_16, s183_17, s183_20, s183_21, s183_22, s183_23, s183_26, s183_27, s183_28, s183_29, s183_30, s183_33, s183_36, s183_39, s183_40, s183_43, s183_44, s183_45, s183_46, s183_47, s183_48, s183_50, s183_53, s183_54, s183_55, s183_56, s183_59, s183_60, s183_61, s183_64, s183_67, s183_70, s183_71, s183_74, s183_75, s183_76, s183_78, s183_79, s183_82, s183_83, s183_84, s183_87, s183_88, s183_89, s183_90, s183_91, s183_94, s183_95, s183_97, s183_98, s183_99, s183_100, s183_101, s183_103, s183_104, s183_105, s183_106, s183_110, s183_112, s183_115, s183_116, s183_119, s183_121, s183_122, s183_124, s183_125, s183_128, s183_130, s183_131, s183_134, s183_136, s183_137, s183_138, s183_139, s183_142, s183_144, s183_146, s183_147, s183_150, s183_153, s183_156, s183_157, ai_101 HM2, aj_101 HM2, gr_65_50 HM2, gt_65 HM2, am183, isRf_ref, true_and, and_true, aPs_s, aPs_n, b01_0, b01_1, nI_clamp, ix_nI, inb_nI, lt_nI, eq_nI, nn_nI, eq0_nI, pk_mul, nI_add, lt_T, lt_F, if_true, if_false, true_and, and_true, neg1_nI, neg1_lt, neg1_neg, lt_neg1, eqN_F, eq_self,  hab, ga, gb, gr_65_50 HM3, aj_101 HM3]
    rw [st, em]
    exact ih (t := t + 1) (by omega) (by omega)
def ivD (k : Nat) : Int32 := match k with
  | 0 => -1
  | k + 1 => nI k
set_option maxHeartbeats 4000000 in
theorem c183_4 (HM : KM h) {f : Nat → Nat} {n : Nat} (hn : n ≤ 6) (R : rwH h n f) {l3 l4 l5 l6 l7 : Value} : ∀ {k : Nat}, k ≤ n - 1 → aW (d + 1) 183 4 [.ref 65, .int (nI n), .int (ivD k), l3, l4, l5, l6, l7] [] h Q = (match lst1 (fun i => decide (¬ f (i + 1) < f i)) k with
    | none => Q (some (.int (nI 0))) h
    | some i => aW (d + 1) 183 45 [.ref 65, .int (nI n), .int (nI i), l3, l4, l5, l6, l7] [] h Q) := by
  intro k
  induction k with
  | zero =>
    intro _
    rw [s183_4]
    simp (disch := first | omega | assumption | exact gt_65 HM | fail) only [s183_0, s183_1, s183_2, s183_3, s183_5, s183_8, s183_9, s183_12, s183_13, s183_16, s183_17, s183_20, s183_21, s183_22, s183_23, s183_26, s183_27, s183_28, s183_29, s183_30, s183_33, s183_36, s183_39, s183_40, s183_43, s183_44, s183_46, s183_47, s183_48, s183_50, s183_53, s183_54, s183_55, s183_56, s183_59, s183_60, s183_61, s183_64, s183_67, s183_70, s183_71, s183_74, s183_75, s183_76, s183_78, s183_79, s183_82, s183_83, s183_84, s183_87, s183_88, s183_89, s183_90, s183_91, s183_94, s183_95, s183_97, s183_98, s183_99, s183_100, s183_101, s183_103, s183_104, s183_105, s183_106, s183_110, s183_112, s183_115, s183_116, s183_119, s183_121, s183_122, s183_124, s183_125, s183_128, s183_130, s183_131, s183_134, s183_136, s183_137, s183_138, s183_139, s183_142, s183_144, s183_146, s183_147, s183_150, s183_153, s183_156, s183_157, ai_101 HM, aj_101 HM, gr_65_50 HM, gt_65 HM, am183, isRf_ref, true_and, and_true, aPs_s, aPs_n, b01_0, b01_1, nI_clamp, ix_nI, inb_nI, lt_nI, eq_nI, nn_nI, eq0_nI, pk_mul, nI_add, lt_T, lt_F, if_true, if_false, true_and, and_true, neg1_nI, neg1_lt, neg1_neg, lt_neg1, eqN_F, eq_self,  ivD, lst1, b01_0]
  | succ k ih =>
    intro hk
    obtain ⟨r1, r2⟩ := R k (by omega)
    obtain ⟨r3, r4⟩ := R (k + 1) (by omega)
    have ih2 := ih (by omega)
    have k6 : k < 6 := by omega
    have k7 : k + 1 < 6 := by omega
    have em : nI k + (-1) = ivD k := by
      cases k with
      | zero => exact iinc_m0
      | succ k => exact iinc_m1 (by omega)
    rw [s183_4, lst1]
    by_cases h1 : f (k + 1) < f k
    · simp (disch := first | omega | assumption | exact gt_65 HM | fail) only [s183_0, s183_1, s183_2, s183_3, s183_5, s183_8, s183_9, s183_12, s183_13, s183_16, s183_17, s183_20, s183_21, s183_22, s183_23, s183_26, s183_27, s183_28, s183_29, s183_30, s183_33, s183_36, s183_39, s183_40, s183_43, s183_44, s183_46, s183_47, s183_48, s183_50, s183_53, s183_54, s183_55, s183_56, s183_59, s183_60, s183_61, s183_64, s183_67, s183_70, s183_71, s183_74, s183_75, s183_76, s183_78, s183_79, s183_82, s183_83, s183_84, s183_87, s183_88, s183_89, s183_90, s183_91, s183_94, s183_95, s183_97, s183_98, s183_99, s183_100, s183_101, s183_103, s183_104, s183_105, s183_106, s183_110, s183_112, s183_115, s183_116, s183_119, s183_121, s183_122, s183_124, s183_125, s183_128, s183_130, s183_131, s183_134, s183_136, s183_137, s183_138, s183_139, s183_142, s183_144, s183_146, s183_147, s183_150, s183_153, s183_156, s183_157, ai_101 HM, aj_101 HM, gr_65_50 HM, gt_65 HM, am183, isRf_ref, true_and, and_true, aPs_s, aPs_n, b01_0, b01_1, nI_clamp, ix_nI, inb_nI, lt_nI, eq_nI, nn_nI, eq0_nI, pk_mul, nI_add, lt_T, lt_F, if_true, if_false, true_and, and_true, neg1_nI, neg1_lt, neg1_neg, lt_neg1, eqN_F, eq_self,  ivD, r1, r3, h1, not_true_eq_false, decide_false, Bool.not_false, Bool.not_true, Bool.true_and, Bool.false_and, Bool.and_true, Bool.and_false, Bool.or_true, Bool.or_false, Bool.true_or, Bool.false_or, Bool.true_eq_false, Bool.false_eq_true, if_true, if_false, Option.isSome_some, Option.isSome_none, Option.isNone_some, Option.isNone_none, zB_t, zB_f, nI1_0, nI0_0, em]
      exact ih2
    · simp (disch := first | omega | assumption | exact gt_65 HM | fail) only [s183_0, s183_1, s183_2, s183_3, s183_5, s183_8, s183_9, s183_12, s183_13, s183_16, s183_17, s183_20, s183_21, s183_22, s183_23, s183_26, s183_27, s183_28, s183_29, s183_30, s183_33, s183_36, s183_39, s183_40, s183_43, s183_44, s183_46, s183_47, s183_48, s183_50, s183_53, s183_54, s183_55, s183_56, s183_59, s183_60, s183_61, s183_64, s183_67, s183_70, s183_71, s183_74, s183_75, s183_76, s183_78, s183_79, s183_82, s183_83, s183_84, s183_87, s183_88, s183_89, s183_90, s183_91, s183_94, s183_95, s183_97, s183_98, s183_99, s183_100, s183_101, s183_103, s183_104, s183_105, s183_106, s183_110, s183_112, s183_115, s183_116, s183_119, s183_121, s183_122, s183_124, s183_125, s183_128, s183_130, s183_131, s183_134, s183_136, s183_137, s183_138, s183_139, s183_142, s183_144, s183_146, s183_147, s183_150, s183_153, s183_156, s183_157, ai_101 HM, aj_101 HM, gr_65_50 HM, gt_65 HM, am183, isRf_ref, true_and, and_true, aPs_s, aPs_n, b01_0, b01_1, nI_clamp, ix_nI, inb_nI, lt_nI, eq_nI, nn_nI, eq0_nI, pk_mul, nI_add, lt_T, lt_F, if_true, if_false, true_and, and_true, neg1_nI, neg1_lt, neg1_neg, lt_neg1, eqN_F, eq_self,  ivD, r1, r3, h1, not_false_eq_true, decide_true, Bool.not_false, Bool.not_true, Bool.true_and, Bool.false_and, Bool.and_true, Bool.and_false, Bool.or_true, Bool.or_false, Bool.true_or, Bool.false_or, Bool.true_eq_false, Bool.false_eq_true, if_true, if_false, Option.isSome_some, Option.isSome_none, Option.isNone_some, Option.isNone_none, zB_t, zB_f, nI1_0, nI0_0]
set_option maxHeartbeats 4000000 in
theorem c183_49 (HM : KM h) {f : Nat → Nat} {n i : Nat} (hn : n ≤ 6) (hi : i < n) (R : rwH h n f) {l4 l5 l6 l7 : Value} : ∀ {k : Nat}, i < k → k ≤ n → aW (d + 1) 183 49 [.ref 65, .int (nI n), .int (nI i), .int (nI (k - 1)), l4, l5, l6, l7] [] h Q = aW (d + 1) 183 70 [.ref 65, .int (nI n), .int (nI i), .int (nI ((lst1 (fun j => decide (¬ f j < f i)) k).getD 0)), l4, l5, l6, l7] [] h Q := by
  intro k
  induction k with
  | zero => intro h; omega
  | succ k ih =>
    intro h1 h2
    obtain ⟨r1, r2⟩ := R k (by omega)
    obtain ⟨r3, r4⟩ := R i hi
    have k6 : k < 6 := by omega
    have i6 : i < 6 := by omega
    rw [Nat.add_sub_cancel, s183_49, lst1]
    by_cases h3 : f k < f i
    · have hki : i < k := by
        rcases Nat.lt_or_eq_of_le (Nat.le_of_lt_succ h1) with h | h
        · exact h
        · subst h; omega
      have em : nI k + (-1) = nI (k - 1) := by
        obtain ⟨m, rfl⟩ : ∃ m, k = m + 1 := ⟨k - 1, by omega⟩
        exact iinc_m1 (by omega)
      simp (disch := first | omega | assumption | exact gt_65 HM | fail) only [s183_0, s183_1, s183_2, s183_3, s183_5, s183_8, s183_9, s183_12, s183_13, s183_16, s183_17, s183_20, s183_21, s183_22, s183_23, s183_26, s183_27, s183_28, s183_29, s183_30, s183_33, s183_36, s183_39, s183_40, s183_43, s183_44, s183_46, s183_47, s183_48, s183_50, s183_53, s183_54, s183_55, s183_56, s183_59, s183_60, s183_61, s183_64, s183_67, s183_71, s183_74, s183_75, s183_76, s183_78, s183_79, s183_82, s183_83, s183_84, s183_87, s183_88, s183_89, s183_90, s183_91, s183_94, s183_95, s183_97, s183_98, s183_99, s183_100, s183_101, s183_103, s183_104, s183_105, s183_106, s183_110, s183_112, s183_115, s183_116, s183_119, s183_121, s183_122, s183_124, s183_125, s183_128, s183_130, s183_131, s183_134, s183_136, s183_137, s183_138, s183_139, s183_142, s183_144, s183_146, s183_147, s183_150, s183_153, s183_156, s183_157, ai_101 HM, aj_101 HM, gr_65_50 HM, gt_65 HM, am183, isRf_ref, true_and, and_true, aPs_s, aPs_n, b01_0, b01_1, nI_clamp, ix_nI, inb_nI, lt_nI, eq_nI, nn_nI, eq0_nI, pk_mul, nI_add, lt_T, lt_F, if_true, if_false, true_and, and_true, neg1_nI, neg1_lt, neg1_neg, lt_neg1, eqN_F, eq_self,  r1, r3, h3, not_true_eq_false, decide_false, Bool.not_false, Bool.not_true, Bool.true_and, Bool.false_and, Bool.and_true, Bool.and_false, Bool.or_true, Bool.or_false, Bool.true_or, Bool.false_or, Bool.true_eq_false, Bool.false_eq_true, if_true, if_false, Option.isSome_some, Option.isSome_none, Option.isNone_some, Option.isNone_none, zB_t, zB_f, nI1_0, nI0_0, em]
      exact ih hki (by omega)
    · simp (disch := first | omega | assumption | exact gt_65 HM | fail) only [s183_0, s183_1, s183_2, s183_3, s183_5, s183_8, s183_9, s183_12, s183_13, s183_16, s183_17, s183_20, s183_21, s183_22, s183_23, s183_26, s183_27, s183_28, s183_29, s183_30, s183_33, s183_36, s183_39, s183_40, s183_43, s183_44, s183_46, s183_47, s183_48, s183_50, s183_53, s183_54, s183_55, s183_56, s183_59, s183_60, s183_61, s183_64, s183_67, s183_71, s183_74, s183_75, s183_76, s183_78, s183_79, s183_82, s183_83, s183_84, s183_87, s183_88, s183_89, s183_90, s183_91, s183_94, s183_95, s183_97, s183_98, s183_99, s183_100, s183_101, s183_103, s183_104, s183_105, s183_106, s183_110, s183_112, s183_115, s183_116, s183_119, s183_121, s183_122, s183_124, s183_125, s183_128, s183_130, s183_131, s183_134, s183_136, s183_137, s183_138, s183_139, s183_142, s183_144, s183_146, s183_147, s183_150, s183_153, s183_156, s183_157, ai_101 HM, aj_101 HM, gr_65_50 HM, gt_65 HM, am183, isRf_ref, true_and, and_true, aPs_s, aPs_n, b01_0, b01_1, nI_clamp, ix_nI, inb_nI, lt_nI, eq_nI, nn_nI, eq0_nI, pk_mul, nI_add, lt_T, lt_F, if_true, if_false, true_and, and_true, neg1_nI, neg1_lt, neg1_neg, lt_neg1, eqN_F, eq_self,  r1, r3, h3, not_false_eq_true, decide_true, Bool.not_false, Bool.not_true, Bool.true_and, Bool.false_and, Bool.and_true, Bool.and_false, Bool.or_true, Bool.or_false, Bool.true_or, Bool.false_or, Bool.true_eq_false, Bool.false_eq_true, if_true, if_false, Option.isSome_some, Option.isSome_none, Option.isNone_some, Option.isNone_none, zB_t, zB_f, nI1_0, nI0_0, Option.getD_some]
theorem nI2_2 : nI 0 - nI 2 = -2 := by decide
theorem m2_neg : ((-2 : Int32) < 0) = True := by decide
set_option maxHeartbeats 4000000 in
theorem c183 (HM : KM h) {f : Nat → Nat} {n : Nat} (hn : n ≤ 6) (R : rwH h n f) : aM (d + 1) 183 [.ref 65, .int (nI n)] h Q = (match nxR f n with
    | none => Q (some (.int (nI 0))) h
    | some f' => Q (some (.int (nI 1))) (pA h 101 (rowI f' (gI h 101) n))) := by
  cases n with
  | zero =>
    simp (disch := first | omega | assumption | exact gt_65 HM | fail) only [s183_0, s183_1, s183_2, s183_3, s183_5, s183_8, s183_9, s183_12, s183_13, s183_16, s183_17, s183_20, s183_21, s183_22, s183_23, s183_26, s183_27, s183_28, s183_29, s183_30, s183_33, s183_36, s183_39, s183_40, s183_43, s183_44, s183_46, s183_47, s183_48, s183_50, s183_53, s183_54, s183_55, s183_56, s183_59, s183_60, s183_61, s183_64, s183_67, s183_70, s183_71, s183_74, s183_75, s183_76, s183_78, s183_79, s183_82, s183_83, s183_84, s183_87, s183_88, s183_89, s183_90, s183_91, s183_94, s183_95, s183_97, s183_98, s183_99, s183_100, s183_101, s183_103, s183_104, s183_105, s183_106, s183_110, s183_112, s183_115, s183_116, s183_119, s183_121, s183_122, s183_124, s183_125, s183_128, s183_130, s183_131, s183_134, s183_136, s183_137, s183_138, s183_139, s183_142, s183_144, s183_146, s183_147, s183_150, s183_153, s183_156, s183_157, ai_101 HM, aj_101 HM, gr_65_50 HM, gt_65 HM, am183, isRf_ref, true_and, and_true, aPs_s, aPs_n, b01_0, b01_1, nI_clamp, ix_nI, inb_nI, lt_nI, eq_nI, nn_nI, eq0_nI, pk_mul, nI_add, lt_T, lt_F, if_true, if_false, true_and, and_true, neg1_nI, neg1_lt, neg1_neg, lt_neg1, eqN_F, eq_self, ]
    rw [s183_4]
    simp (disch := first | omega | assumption | exact gt_65 HM | fail) only [s183_0, s183_1, s183_2, s183_3, s183_5, s183_8, s183_9, s183_12, s183_13, s183_16, s183_17, s183_20, s183_21, s183_22, s183_23, s183_26, s183_27, s183_28, s183_29, s183_30, s183_33, s183_36, s183_39, s183_40, s183_43, s183_44, s183_46, s183_47, s183_48, s183_50, s183_53, s183_54, s183_55, s183_56, s183_59, s183_60, s183_61, s183_64, s183_67, s183_70, s183_71, s183_74, s183_75, s183_76, s183_78, s183_79, s183_82, s183_83, s183_84, s183_87, s183_88, s183_89, s183_90, s183_91, s183_94, s183_95, s183_97, s183_98, s183_99, s183_100, s183_101, s183_103, s183_104, s183_105, s183_106, s183_110, s183_112, s183_115, s183_116, s183_119, s183_121, s183_122, s183_124, s183_125, s183_128, s183_130, s183_131, s183_134, s183_136, s183_137, s183_138, s183_139, s183_142, s183_144, s183_146, s183_147, s183_150, s183_153, s183_156, s183_157, ai_101 HM, aj_101 HM, gr_65_50 HM, gt_65 HM, am183, isRf_ref, true_and, and_true, aPs_s, aPs_n, b01_0, b01_1, nI_clamp, ix_nI, inb_nI, lt_nI, eq_nI, nn_nI, eq0_nI, pk_mul, nI_add, lt_T, lt_F, if_true, if_false, true_and, and_true, neg1_nI, neg1_lt, neg1_neg, lt_neg1, eqN_F, eq_self,  nI2_2, m2_neg, b01_0]
    rfl
  | succ n =>
    have e2 : nI (n + 1) - nI 2 = ivD n := by
      cases n with
      | zero => decide
      | succ n => exact pk_sub (by omega)
    simp (disch := first | omega | assumption | exact gt_65 HM | fail) only [s183_0, s183_1, s183_2, s183_3, s183_5, s183_8, s183_9, s183_12, s183_13, s183_16, s183_17, s183_20, s183_21, s183_22, s183_23, s183_26, s183_27, s183_28, s183_29, s183_30, s183_33, s183_36, s183_39, s183_40, s183_43, s183_44, s183_46, s183_47, s183_48, s183_50, s183_53, s183_54, s183_55, s183_56, s183_59, s183_60, s183_61, s183_64, s183_67, s183_71, s183_74, s183_75, s183_76, s183_78, s183_79, s183_82, s183_83, s183_84, s183_87, s183_88, s183_89, s183_90, s183_91, s183_94, s183_95, s183_97, s183_98, s183_99, s183_100, s183_101, s183_103, s183_104, s183_105, s183_106, s183_110, s183_112, s183_115, s183_116, s183_119, s183_121, s183_122, s183_124, s183_125, s183_128, s183_130, s183_131, s183_134, s183_136, s183_137, s183_138, s183_139, s183_142, s183_144, s183_146, s183_147, s183_150, s183_153, s183_156, s183_157, ai_101 HM, aj_101 HM, gr_65_50 HM, gt_65 HM, am183, isRf_ref, true_and, and_true, aPs_s, aPs_n, b01_0, b01_1, nI_clamp, ix_nI, inb_nI, lt_nI, eq_nI, nn_nI, eq0_nI, pk_mul, nI_add, lt_T, lt_F, if_true, if_false, true_and, and_true, neg1_nI, neg1_lt, neg1_neg, lt_neg1, eqN_F, eq_self,  e2]
    rw [c183_4 HM hn R (by omega)]
    unfold nxR
    rw [Nat.add_sub_cancel]
    cases hq : lst1 (fun i => decide (¬ f (i + 1) < f i)) n with
    | none => rfl
    | some i =>
      obtain ⟨i1, i2⟩ := lst1_lt hq
      simp only
      have e1 : nI (n + 1) - nI 1 = nI n := by rw [pk_sub (by omega), Nat.add_sub_cancel]
      rw [s183_45]
      simp (disch := first | omega | assumption | exact gt_65 HM | fail) only [s183_0, s183_1, s183_2, s183_3, s183_5, s183_8, s183_9, s183_12, s183_13, s183_16, s183_17, s183_20, s183_21, s183_22, s183_23, s183_26, s183_27, s183_28, s183_29, s183_30, s183_33, s183_36, s183_39, s183_40, s183_43, s183_44, s183_46, s183_47, s183_48, s183_50, s183_53, s183_54, s183_55, s183_56, s183_59, s183_60, s183_61, s183_64, s183_67, s183_71, s183_74, s183_75, s183_76, s183_78, s183_79, s183_82, s183_83, s183_84, s183_87, s183_88, s183_89, s183_90, s183_91, s183_94, s183_95, s183_97, s183_98, s183_99, s183_100, s183_101, s183_103, s183_104, s183_105, s183_106, s183_110, s183_112, s183_115, s183_116, s183_119, s183_121, s183_122, s183_124, s183_125, s183_128, s183_130, s183_131, s183_134, s183_136, s183_137, s183_138, s183_139, s183_142, s183_144, s183_146, s183_147, s183_150, s183_153, s183_156, s183_157, ai_101 HM, aj_101 HM, gr_65_50 HM, gt_65 HM, am183, isRf_ref, true_and, and_true, aPs_s, aPs_n, b01_0, b01_1, nI_clamp, ix_nI, inb_nI, lt_nI, eq_nI, nn_nI, eq0_nI, pk_mul, nI_add, lt_T, lt_F, if_true, if_false, true_and, and_true, neg1_nI, neg1_lt, neg1_neg, lt_neg1, eqN_F, eq_self,  e1]
      have l2 := c183_49 (d := d) (Q := Q) HM hn (show i < n + 1 by omega) R (l4 := .retAddr 0) (l5 := .retAddr 0) (l6 := .retAddr 0) (l7 := .retAddr 0) (k := n + 1) (by omega) (Nat.le_refl _)
      rw [Nat.add_sub_cancel] at l2
      rw [l2]
      have hj : ∃ j, lst1 (fun j => decide (¬ f j < f i)) (n + 1) = some j ∧ j < n + 1 := by
        cases hj : lst1 (fun j => decide (¬ f j < f i)) (n + 1) with
        | some j => exact ⟨j, rfl, (lst1_lt hj).1⟩
        | none =>
          have : ∀ m, i < m → lst1 (fun j => decide (¬ f j < f i)) m ≠ none := by
            intro m
            induction m with
            | zero => intro h; omega
            | succ m ihm =>
              intro hm
              rw [lst1]
              split
              · intro h; cases h
              · rename_i hc
                refine ihm ?_
                rcases Nat.lt_or_eq_of_le (Nat.le_of_lt_succ hm) with h | h
                · exact h
                · subst h; simp at hc
          exact absurd hj (this _ (by omega))
      obtain ⟨j, hj, hjn⟩ := hj
      rw [hj, Option.getD_some]
      obtain ⟨r1, r2⟩ := R i (by omega)
      obtain ⟨r3, r4⟩ := R j hjn
      have i6 : i < 6 := by omega
      have j6 : j < 6 := by omega
      have HM3 : KM (pI h 101 i (nI (f j))) := HM
      have t65b := gt_65 HM3
      have st : pI (pI h 101 i (nI (f j))) 101 j (nI (f i)) = pA h 101 (rowI (rvN (swp f i j) (i + 1) (n + 1 - 1) 0) (gI h 101) (n + 1)) := by
        rw [pI_def (h := h), pI_pA]
        congr 1
        funext k
        unfold upd rowI rvN swp
        by_cases k3 : k < n + 1
        · have e4 : ¬ (i + 1 ≤ k ∧ k < i + 1 + 0 ∨ n + 1 - 1 < k + 0 ∧ k ≤ n + 1 - 1) := by omega
          rw [if_pos k3, if_neg e4]
          by_cases k1 : k = j
          · rw [if_pos k1, if_pos k1]
          · rw [if_neg k1, if_neg k1]
            by_cases k2 : k = i
            · rw [if_pos k2, if_pos k2]
            · rw [if_neg k2, if_neg k2, (R k k3).1]
        · rw [if_neg k3, if_neg (by omega), if_neg (by omega)]
      have HM4 : KM (pA h 101 (rowI (rvN (swp f i j) (i + 1) (n + 1 - 1) 0) (gI h 101) (n + 1))) := HM
      have t65c := gt_65 HM4
      rw [s183_70]
      simp (disch := first | omega | assumption | exact gt_65 HM | fail) only [s183_0, s183_1, s183_2, s183_3, s183_5, s183_8, s183_9, s183_12, s183_13, s183_16, s183_17, s183_20, s183_21, s183_22, s183_23, s183_26, s183_27, s183_28, s183_29, s183_30, s183_33, s183_36, s183_39, s183_40, s183_43, s183_44, s183_46, s183_47, s183_48, s183_50, s183_53, s183_54, s183_55, s183_56, s183_59, s183_60, s183_61, s183_64, s183_67, s183_71, s183_74, s183_75, s183_76, s183_78, s183_79, s183_82, s183_83, s183_84, s183_87, s183_88, s183_89, s183_90, s183_91, s183_94, s183_95, s183_97, s183_98, s183_99, s183_100, s183_101, s183_103, s183_104, s183_105, s183_106, s183_110, s183_112, s183_115, s183_116, s183_119, s183_121, s183_122, s183_124, s183_125, s183_128, s183_130, s183_131, s183_134, s183_136, s183_137, s183_138, s183_139, s183_142, s183_144, s183_146, s183_147, s183_150, s183_153, s183_156, s183_157, ai_101 HM, aj_101 HM, gr_65_50 HM, gt_65 HM, am183, isRf_ref, true_and, and_true, aPs_s, aPs_n, b01_0, b01_1, nI_clamp, ix_nI, inb_nI, lt_nI, eq_nI, nn_nI, eq0_nI, pk_mul, nI_add, lt_T, lt_F, if_true, if_false, true_and, and_true, neg1_nI, neg1_lt, neg1_neg, lt_neg1, eqN_F, eq_self,  r1, r3, gr_65_50 HM3, aj_101 HM3, e1]
      rw [st]
      obtain ⟨m, hm1, hm2⟩ : ∃ m, 2 * (0 + m) ≤ n + 1 - 1 - i ∧ n + 1 - 1 - i ≤ 2 * (0 + m) + 1 := ⟨(n - i) / 2, by omega, by omega⟩
      exact c183_108 HM hn (by omega) hm1 hm2
end M14
