/-! THE CLASS: Heights -/
/-- how many that lie reach above a cell -/
def upC (U : Nat → Bool) (E : Nat → Nat) (x : Nat) : Nat → Nat
  | 0 => 0
  | j + 1 => upC U E x j + (if (U j && decide (x < E j)) = true then 1 else 0)
theorem upC_mono {U : Nat → Bool} {E : Nat → Nat} {x y : Nat} (h : x ≤ y) : ∀ {n : Nat}, upC U E y n ≤ upC U E x n := by
  intro n
  induction n with
  | zero => exact Nat.le_refl _
  | succ n ih =>
    rw [upC, upC]
    cases U n with
    | false => simpa using ih
    | true =>
      simp only [Bool.true_and, decide_eq_true_iff]
      split <;> split <;> omega
theorem upC_lt {U : Nat → Bool} {E : Nat → Nat} {x y j : Nat} (h : x ≤ y) (hu : U j = true) (h1 : x < E j) (h2 : E j ≤ y) : ∀ {n : Nat}, j < n → upC U E y n < upC U E x n := by
  intro n
  induction n with
  | zero => intro hj; omega
  | succ n ih =>
    intro hj
    rw [upC, upC]
    by_cases e : j = n
    · subst e
      have := upC_mono (U := U) (E := E) h (n := j)
      rw [hu]
      simp only [Bool.true_and, decide_eq_true_iff]
      rw [if_neg (by omega), if_pos h1]
      omega
    · have := ih (by omega)
      cases U n with
      | false => simpa using this
      | true =>
        simp only [Bool.true_and, decide_eq_true_iff]
        split <;> split <;> omega
theorem upC_le {D : Nat} {E : Nat → Nat} {x : Nat} : ∀ {n : Nat}, upC (tb D) E x n ≤ cntB D n := by
  intro n
  induction n with
  | zero => exact Nat.le_refl _
  | succ n ih =>
    rw [upC, cntB]
    cases h : tb D n with
    | false => simpa using ih
    | true =>
      simp only [Bool.true_and, if_true]
      split <;> omega
/-- the first one of a SHEET that lies and is hit -/
def htB (P : Nat → Nat → Int32) (o bb : Nat → Nat) (LL : Nat → Nat) (D i x j : Nat) : Bool := tb D j && (shB P o (bb i) (bb j) && meetB x (zS P (bb i)) (LL j) (zS P (bb j)))
/-- a row that is begun -/
def rwK (n : Nat) (r : List Nat) : Prop := (∀ k, k < r.length → gf r k < n) ∧ cntB (obt (gf r) r.length) n = r.length
theorem rwK_add {n i : Nat} {r : List Nat} (K : rwK n r) (hi : i < n) (hn : r.contains i = false) : rwK n (r ++ [i]) ∧ obt (gf (r ++ [i])) (r ++ [i]).length = obt (gf r) r.length ||| 2 ^ i := by
  have hl : (r ++ [i]).length = r.length + 1 := by simp
  have e : obt (gf (r ++ [i])) (r ++ [i]).length = obt (gf r) r.length ||| 2 ^ i := by
    rw [hl, obt, gf_last, obt_congr (fun j hj => gf_app hj)]
  refine ⟨⟨fun k hk => ?_, ?_⟩, e⟩
  · by_cases h : k < r.length
    · rw [gf_app h]; exact K.1 k h
    · have : k = r.length := by omega
      rw [this, gf_last]
      exact hi
  · rw [e, cntB_or (by rw [row_tb]; exact hn), K.2, if_pos hi, hl]
theorem rwK_lt {n : Nat} {r : List Nat} (K : rwK n r) : obt (gf r) r.length < 2 ^ n := by
  have key : ∀ k, k ≤ r.length → obt (gf r) k < 2 ^ n := by
    intro k
    induction k with
    | zero => intro _; exact Nat.two_pow_pos _
    | succ k ih => intro hk; rw [obt]; exact or_lt (ih (by omega)) (K.1 k (by omega))
  exact key _ (Nat.le_refl _)
section C16
variable {d p : Nat} {h : abH} {Q : Option Value → abH → Prop}
theorem c132 {a sa b sb : Nat} (h1 : a + sa < 2 ^ 31) (h2 : b + sb < 2 ^ 31) : aM d 132 [.int (nI a), .int (nI sa), .int (nI b), .int (nI sb)] h Q = Q (some (.int (zB (meetB a sa b sb)))) h := by
  unfold meetB
  by_cases g1 : 0 < sa
  · by_cases g2 : 0 < sb
    · by_cases g3 : a < b + sb
      · by_cases g4 : b < a + sa
        · simp (disch := first | omega | assumption | fail) only [s132_0, s132_1, s132_4, s132_5, s132_8, s132_9, s132_10, s132_11, s132_12, s132_15, s132_16, s132_17, s132_18, s132_19, s132_22, s132_23, s132_26, s132_27, am132, isRf_ref, true_and, and_true, aPs_s, aPs_n, b01_0, b01_1, nI_clamp, ix_nI, inb_nI, lt_nI, eq_nI, nn_nI, eq0_nI, pk_mul, nI_add, lt_T, lt_F, if_true, if_false, true_and, and_true, neg1_nI, neg1_lt, neg1_neg, lt_neg1, eqN_F, eq_self,  p0_nI, g1, g2, g3, g4, decide_true, Bool.not_false, Bool.not_true, Bool.true_and, Bool.false_and, Bool.and_true, Bool.and_false, Bool.or_true, Bool.or_false, Bool.true_or, Bool.false_or, Bool.true_eq_false, Bool.false_eq_true, if_true, if_false, Option.isSome_some, Option.isSome_none, Option.isNone_some, Option.isNone_none, zB_t, zB_f, nI1_0, nI0_0]
        · simp (disch := first | omega | assumption | fail) only [s132_0, s132_1, s132_4, s132_5, s132_8, s132_9, s132_10, s132_11, s132_12, s132_15, s132_16, s132_17, s132_18, s132_19, s132_22, s132_23, s132_26, s132_27, am132, isRf_ref, true_and, and_true, aPs_s, aPs_n, b01_0, b01_1, nI_clamp, ix_nI, inb_nI, lt_nI, eq_nI, nn_nI, eq0_nI, pk_mul, nI_add, lt_T, lt_F, if_true, if_false, true_and, and_true, neg1_nI, neg1_lt, neg1_neg, lt_neg1, eqN_F, eq_self,  p0_nI, g1, g2, g3, g4, decide_true, decide_false, Bool.not_false, Bool.not_true, Bool.true_and, Bool.false_and, Bool.and_true, Bool.and_false, Bool.or_true, Bool.or_false, Bool.true_or, Bool.false_or, Bool.true_eq_false, Bool.false_eq_true, if_true, if_false, Option.isSome_some, Option.isSome_none, Option.isNone_some, Option.isNone_none, zB_t, zB_f, nI1_0, nI0_0]
      · simp (disch := first | omega | assumption | fail) only [s132_0, s132_1, s132_4, s132_5, s132_8, s132_9, s132_10, s132_11, s132_12, s132_15, s132_16, s132_17, s132_18, s132_19, s132_22, s132_23, s132_26, s132_27, am132, isRf_ref, true_and, and_true, aPs_s, aPs_n, b01_0, b01_1, nI_clamp, ix_nI, inb_nI, lt_nI, eq_nI, nn_nI, eq0_nI, pk_mul, nI_add, lt_T, lt_F, if_true, if_false, true_and, and_true, neg1_nI, neg1_lt, neg1_neg, lt_neg1, eqN_F, eq_self,  p0_nI, g1, g2, g3, decide_true, decide_false, Bool.not_false, Bool.not_true, Bool.true_and, Bool.false_and, Bool.and_true, Bool.and_false, Bool.or_true, Bool.or_false, Bool.true_or, Bool.false_or, Bool.true_eq_false, Bool.false_eq_true, if_true, if_false, Option.isSome_some, Option.isSome_none, Option.isNone_some, Option.isNone_none, zB_t, zB_f, nI1_0, nI0_0]
    · simp (disch := first | omega | assumption | fail) only [s132_0, s132_1, s132_4, s132_5, s132_8, s132_9, s132_10, s132_11, s132_12, s132_15, s132_16, s132_17, s132_18, s132_19, s132_22, s132_23, s132_26, s132_27, am132, isRf_ref, true_and, and_true, aPs_s, aPs_n, b01_0, b01_1, nI_clamp, ix_nI, inb_nI, lt_nI, eq_nI, nn_nI, eq0_nI, pk_mul, nI_add, lt_T, lt_F, if_true, if_false, true_and, and_true, neg1_nI, neg1_lt, neg1_neg, lt_neg1, eqN_F, eq_self,  p0_nI, g1, g2, decide_true, decide_false, Bool.not_false, Bool.not_true, Bool.true_and, Bool.false_and, Bool.and_true, Bool.and_false, Bool.or_true, Bool.or_false, Bool.true_or, Bool.false_or, Bool.true_eq_false, Bool.false_eq_true, if_true, if_false, Option.isSome_some, Option.isSome_none, Option.isNone_some, Option.isNone_none, zB_t, zB_f, nI1_0, nI0_0]
  · simp (disch := first | omega | assumption | fail) only [s132_0, s132_1, s132_4, s132_5, s132_8, s132_9, s132_10, s132_11, s132_12, s132_15, s132_16, s132_17, s132_18, s132_19, s132_22, s132_23, s132_26, s132_27, am132, isRf_ref, true_and, and_true, aPs_s, aPs_n, b01_0, b01_1, nI_clamp, ix_nI, inb_nI, lt_nI, eq_nI, nn_nI, eq0_nI, pk_mul, nI_add, lt_T, lt_F, if_true, if_false, true_and, and_true, neg1_nI, neg1_lt, neg1_neg, lt_neg1, eqN_F, eq_self,  p0_nI, g1, decide_false, Bool.not_false, Bool.not_true, Bool.true_and, Bool.false_and, Bool.and_true, Bool.and_false, Bool.or_true, Bool.or_false, Bool.true_or, Bool.false_or, Bool.true_eq_false, Bool.false_eq_true, if_true, if_false, Option.isSome_some, Option.isSome_none, Option.isNone_some, Option.isNone_none, zB_t, zB_f, nI1_0, nI0_0]
/-- what is set as one looks for HEIGHT -/
def HD (h : abH) (s : Nat) : Prop := gR h 42 0 = .ref 29 ∧ gR h 42 1 = .ref (57 + 2 * s)
set_option maxHeartbeats 8000000 in
theorem c19 (H : KC h) {P : Nat → Nat → Int32} (V : okP P) (LDh : LD h P) {o : Nat → Nat} (L : TL h P o) {s n : Nat} (hs : s < 4) (hn : n ≤ 6) {bb : Nat → Nat} (N : HD h s) (B : SB h s n bb) {LL : Nat → Nat} {D i x : Nat} (hi : i < n) (hD : D < 64) (hx : x < 300000) (hLL : ∀ j, j < n → tb D j = true → gI h 43 j = nI (LL j) ∧ LL j < 300000) : aM (d + 1) 19 [.ref 42, .int (nI i), .int (nI x), .int (nI D)] h Q = Q (some (.int (oI (fst1 (htB P o bb LL D i x) n 0)))) h := by
  obtain ⟨n1, n2⟩ := N
  obtain ⟨B1, B2⟩ := B
  obtain ⟨i1, i2⟩ := B2 i hi
  have i40 : i < 40 := by omega
  have a31 := ai_31 H
  have zi := (zS_ok V i2).2
  have lzi := LDh.1 _ i2
  have loop := for_ds (σ := Value) (F := fun j y => aW (d + 1) 19 26 [.ref 42, .int (nI i), .int (nI x), .int (nI D), .int (nI (bb i)), .ref 31, .int (nI j), y] [] h Q) (R := fun j => Q (some (.int (oI (fst1 (htB P o bb LL D i x) (n - j) j)))) h) n (fun y => by
    rw [s19_26, fst1_end]
    simp (disch := first | omega | assumption | exact gtS H hs | exact gt_29 H | exact gt_30 H | exact gt_42 H | (simp only [gT_pA, gT_pI, gT_pR]; first | assumption | exact gtS H hs | exact gt_29 H | exact gt_30 H | exact gt_42 H) | fail) only [s19_0, s19_1, s19_4, s19_7, s19_8, s19_9, s19_11, s19_12, s19_15, s19_18, s19_21, s19_23, s19_24, s19_28, s19_29, s19_32, s19_35, s19_38, s19_39, s19_42, s19_45, s19_47, s19_48, s19_50, s19_51, s19_53, s19_54, s19_55, s19_56, s19_59, s19_60, s19_63, s19_65, s19_67, s19_70, s19_73, s19_74, s19_76, s19_78, s19_79, s19_80, s19_83, s19_85, s19_86, s19_88, s19_90, s19_91, s19_94, s19_97, s19_99, s19_100, s19_103, s19_106, s19_107, aiS H hs, ai_31 H, ai_43 H, grS2 H hs, gr_29_0 H, gr_30_1 H, gr_42_3 H, gtS H hs, gt_29 H, gt_30 H, gt_42 H, am19, isRf_ref, true_and, and_true, aPs_s, aPs_n, b01_0, b01_1, nI_clamp, ix_nI, inb_nI, lt_nI, eq_nI, nn_nI, eq0_nI, pk_mul, nI_add, lt_T, lt_F, if_true, if_false, true_and, and_true, neg1_nI, neg1_lt, neg1_neg, lt_neg1, eqN_F, eq_self,  n2, B1, Nat.lt_irrefl, oI_n]) (fun j hj ih y => by
    obtain ⟨j1, j2⟩ := B2 j hj
    have j40 : j < 40 := by omega
    have j6 : j < 6 := by omega
    have zj := (zS_ok V j2).2
    have lzj := LDh.1 _ j2
    have c91' : ∀ Q', aM d 91 [.ref 29, .int (nI (bb i)), .int (nI (bb j))] h Q' = Q' (some (.int (zB (shB P o (bb i) (bb j))))) h := fun Q' => c91 H V L i2 j2
    rw [s19_26, fst1_step hj]
    unfold htB at ih ⊢
    rcases Bool.eq_false_or_eq_true (tb D j) with g1 | g1
    · rcases Bool.eq_false_or_eq_true (shB P o (bb i) (bb j)) with g2 | g2
      · obtain ⟨l1, l2⟩ := hLL j hj g1
        have c132' : ∀ Q', aM d 132 [.int (nI x), .int (nI (zS P (bb i))), .int (nI (LL j)), .int (nI (zS P (bb j)))] h Q' = Q' (some (.int (zB (meetB x (zS P (bb i)) (LL j) (zS P (bb j)))))) h := fun Q' => c132 (by omega) (by omega)
        rcases Bool.eq_false_or_eq_true (meetB x (zS P (bb i)) (LL j) (zS P (bb j))) with g3 | g3
        · simp (disch := first | omega | assumption | exact gtS H hs | exact gt_29 H | exact gt_30 H | exact gt_42 H | (simp only [gT_pA, gT_pI, gT_pR]; first | assumption | exact gtS H hs | exact gt_29 H | exact gt_30 H | exact gt_42 H) | fail) only [s19_0, s19_1, s19_4, s19_7, s19_8, s19_9, s19_11, s19_12, s19_15, s19_18, s19_21, s19_23, s19_24, s19_28, s19_29, s19_32, s19_35, s19_38, s19_39, s19_42, s19_45, s19_47, s19_48, s19_50, s19_51, s19_53, s19_54, s19_55, s19_56, s19_59, s19_60, s19_63, s19_65, s19_67, s19_70, s19_73, s19_74, s19_76, s19_78, s19_79, s19_80, s19_83, s19_85, s19_86, s19_88, s19_90, s19_91, s19_94, s19_97, s19_99, s19_100, s19_103, s19_106, s19_107, aiS H hs, ai_31 H, ai_43 H, grS2 H hs, gr_29_0 H, gr_30_1 H, gr_42_3 H, gtS H hs, gt_29 H, gt_30 H, gt_42 H, am19, isRf_ref, true_and, and_true, aPs_s, aPs_n, b01_0, b01_1, nI_clamp, ix_nI, inb_nI, lt_nI, eq_nI, nn_nI, eq0_nI, pk_mul, nI_add, lt_T, lt_F, if_true, if_false, true_and, and_true, neg1_nI, neg1_lt, neg1_neg, lt_neg1, eqN_F, eq_self,  n1, n2, B1, hj, j40, j1, bit_0, g1, Bool.not_false, Bool.not_true, Bool.true_and, Bool.false_and, Bool.and_true, Bool.and_false, Bool.or_true, Bool.or_false, Bool.true_or, Bool.false_or, Bool.true_eq_false, Bool.false_eq_true, if_true, if_false, Option.isSome_some, Option.isSome_none, Option.isNone_some, Option.isNone_none, zB_t, zB_f, nI1_0, nI0_0, c91', g2, i2, j2, a31, lzi, lzj, j6, l1, c132', g3, oI_s]
        · simp (disch := first | omega | assumption | exact gtS H hs | exact gt_29 H | exact gt_30 H | exact gt_42 H | (simp only [gT_pA, gT_pI, gT_pR]; first | assumption | exact gtS H hs | exact gt_29 H | exact gt_30 H | exact gt_42 H) | fail) only [s19_0, s19_1, s19_4, s19_7, s19_8, s19_9, s19_11, s19_12, s19_15, s19_18, s19_21, s19_23, s19_24, s19_28, s19_29, s19_32, s19_35, s19_38, s19_39, s19_42, s19_45, s19_47, s19_48, s19_50, s19_51, s19_53, s19_54, s19_55, s19_56, s19_59, s19_60, s19_63, s19_65, s19_67, s19_70, s19_73, s19_74, s19_76, s19_78, s19_79, s19_80, s19_83, s19_85, s19_86, s19_88, s19_90, s19_91, s19_94, s19_97, s19_99, s19_100, s19_103, s19_106, s19_107, aiS H hs, ai_31 H, ai_43 H, grS2 H hs, gr_29_0 H, gr_30_1 H, gr_42_3 H, gtS H hs, gt_29 H, gt_30 H, gt_42 H, am19, isRf_ref, true_and, and_true, aPs_s, aPs_n, b01_0, b01_1, nI_clamp, ix_nI, inb_nI, lt_nI, eq_nI, nn_nI, eq0_nI, pk_mul, nI_add, lt_T, lt_F, if_true, if_false, true_and, and_true, neg1_nI, neg1_lt, neg1_neg, lt_neg1, eqN_F, eq_self,  n1, n2, B1, hj, j40, j1, bit_0, g1, Bool.not_false, Bool.not_true, Bool.true_and, Bool.false_and, Bool.and_true, Bool.and_false, Bool.or_true, Bool.or_false, Bool.true_or, Bool.false_or, Bool.true_eq_false, Bool.false_eq_true, if_true, if_false, Option.isSome_some, Option.isSome_none, Option.isNone_some, Option.isNone_none, zB_t, zB_f, nI1_0, nI0_0, c91', g2, i2, j2, a31, lzi, lzj, j6, l1, c132', g3, ih]
      · simp (disch := first | omega | assumption | exact gtS H hs | exact gt_29 H | exact gt_30 H | exact gt_42 H | (simp only [gT_pA, gT_pI, gT_pR]; first | assumption | exact gtS H hs | exact gt_29 H | exact gt_30 H | exact gt_42 H) | fail) only [s19_0, s19_1, s19_4, s19_7, s19_8, s19_9, s19_11, s19_12, s19_15, s19_18, s19_21, s19_23, s19_24, s19_28, s19_29, s19_32, s19_35, s19_38, s19_39, s19_42, s19_45, s19_47, s19_48, s19_50, s19_51, s19_53, s19_54, s19_55, s19_56, s19_59, s19_60, s19_63, s19_65, s19_67, s19_70, s19_73, s19_74, s19_76, s19_78, s19_79, s19_80, s19_83, s19_85, s19_86, s19_88, s19_90, s19_91, s19_94, s19_97, s19_99, s19_100, s19_103, s19_106, s19_107, aiS H hs, ai_31 H, ai_43 H, grS2 H hs, gr_29_0 H, gr_30_1 H, gr_42_3 H, gtS H hs, gt_29 H, gt_30 H, gt_42 H, am19, isRf_ref, true_and, and_true, aPs_s, aPs_n, b01_0, b01_1, nI_clamp, ix_nI, inb_nI, lt_nI, eq_nI, nn_nI, eq0_nI, pk_mul, nI_add, lt_T, lt_F, if_true, if_false, true_and, and_true, neg1_nI, neg1_lt, neg1_neg, lt_neg1, eqN_F, eq_self,  n1, n2, B1, hj, j40, j1, bit_0, g1, Bool.not_false, Bool.not_true, Bool.true_and, Bool.false_and, Bool.and_true, Bool.and_false, Bool.or_true, Bool.or_false, Bool.true_or, Bool.false_or, Bool.true_eq_false, Bool.false_eq_true, if_true, if_false, Option.isSome_some, Option.isSome_none, Option.isNone_some, Option.isNone_none, zB_t, zB_f, nI1_0, nI0_0, c91', g2, ih]
    · simp (disch := first | omega | assumption | exact gtS H hs | exact gt_29 H | exact gt_30 H | exact gt_42 H | (simp only [gT_pA, gT_pI, gT_pR]; first | assumption | exact gtS H hs | exact gt_29 H | exact gt_30 H | exact gt_42 H) | fail) only [s19_0, s19_1, s19_4, s19_7, s19_8, s19_9, s19_11, s19_12, s19_15, s19_18, s19_21, s19_23, s19_24, s19_28, s19_29, s19_32, s19_35, s19_38, s19_39, s19_42, s19_45, s19_47, s19_48, s19_50, s19_51, s19_53, s19_54, s19_55, s19_56, s19_59, s19_60, s19_63, s19_65, s19_67, s19_70, s19_73, s19_74, s19_76, s19_78, s19_79, s19_80, s19_83, s19_85, s19_86, s19_88, s19_90, s19_91, s19_94, s19_97, s19_99, s19_100, s19_103, s19_106, s19_107, aiS H hs, ai_31 H, ai_43 H, grS2 H hs, gr_29_0 H, gr_30_1 H, gr_42_3 H, gtS H hs, gt_29 H, gt_30 H, gt_42 H, am19, isRf_ref, true_and, and_true, aPs_s, aPs_n, b01_0, b01_1, nI_clamp, ix_nI, inb_nI, lt_nI, eq_nI, nn_nI, eq0_nI, pk_mul, nI_add, lt_T, lt_F, if_true, if_false, true_and, and_true, neg1_nI, neg1_lt, neg1_neg, lt_neg1, eqN_F, eq_self,  n1, n2, B1, hj, j40, j1, bit_0, g1, Bool.not_false, Bool.not_true, Bool.true_and, Bool.false_and, Bool.and_true, Bool.and_false, Bool.or_true, Bool.or_false, Bool.true_or, Bool.false_or, Bool.true_eq_false, Bool.false_eq_true, if_true, if_false, Option.isSome_some, Option.isSome_none, Option.isNone_some, Option.isNone_none, zB_t, zB_f, nI1_0, nI0_0, ih])
  simp (disch := first | omega | assumption | exact gtS H hs | exact gt_29 H | exact gt_30 H | exact gt_42 H | (simp only [gT_pA, gT_pI, gT_pR]; first | assumption | exact gtS H hs | exact gt_29 H | exact gt_30 H | exact gt_42 H) | fail) only [s19_0, s19_1, s19_4, s19_7, s19_8, s19_9, s19_11, s19_12, s19_15, s19_18, s19_21, s19_23, s19_24, s19_28, s19_29, s19_32, s19_35, s19_38, s19_39, s19_42, s19_45, s19_47, s19_48, s19_50, s19_51, s19_53, s19_54, s19_55, s19_56, s19_59, s19_60, s19_63, s19_65, s19_67, s19_70, s19_73, s19_74, s19_76, s19_78, s19_79, s19_80, s19_83, s19_85, s19_86, s19_88, s19_90, s19_91, s19_94, s19_97, s19_99, s19_100, s19_103, s19_106, s19_107, aiS H hs, ai_31 H, ai_43 H, grS2 H hs, gr_29_0 H, gr_30_1 H, gr_42_3 H, gtS H hs, gt_29 H, gt_30 H, gt_42 H, am19, isRf_ref, true_and, and_true, aPs_s, aPs_n, b01_0, b01_1, nI_clamp, ix_nI, inb_nI, lt_nI, eq_nI, nn_nI, eq0_nI, pk_mul, nI_add, lt_T, lt_F, if_true, if_false, true_and, and_true, neg1_nI, neg1_lt, neg1_neg, lt_neg1, eqN_F, eq_self,  n1, n2, i40, i1]
  exact loop 0 (Nat.zero_le _) _
theorem c17 (H : KC h) {P : Nat → Nat → Int32} (V : okP P) (LDh : LD h P) {s n : Nat} (hs : s < 4) (hn : n ≤ 6) {bb : Nat → Nat} (N : HD h s) (B : SB h s n bb) {i x : Nat} (hi : i < n) (hx : gI h 43 i = nI x) (hx2 : x < 300000) : aM d 17 [.ref 42, .int (nI i)] h Q = Q (some (.int (nI (x + zS P (bb i))))) h := by
  obtain ⟨n1, n2⟩ := N
  obtain ⟨B1, B2⟩ := B
  obtain ⟨i1, i2⟩ := B2 i hi
  have i40 : i < 40 := by omega
  have i6 : i < 6 := by omega
  have lzi := LDh.1 _ i2
  simp (disch := first | omega | assumption | exact gtS H hs | exact gt_29 H | exact gt_30 H | exact gt_42 H | (simp only [gT_pA, gT_pI, gT_pR]; first | assumption | exact gtS H hs | exact gt_29 H | exact gt_30 H | exact gt_42 H) | fail) only [s17_0, s17_1, s17_4, s17_5, s17_6, s17_7, s17_10, s17_13, s17_16, s17_17, s17_20, s17_23, s17_24, s17_25, s17_26, s17_27, aiS H hs, ai_31 H, ai_43 H, grS2 H hs, gr_29_0 H, gr_30_1 H, gr_42_3 H, gtS H hs, gt_29 H, gt_30 H, gt_42 H, am17, isRf_ref, true_and, and_true, aPs_s, aPs_n, b01_0, b01_1, nI_clamp, ix_nI, inb_nI, lt_nI, eq_nI, nn_nI, eq0_nI, pk_mul, nI_add, lt_T, lt_F, if_true, if_false, true_and, and_true, neg1_nI, neg1_lt, neg1_neg, lt_neg1, eqN_F, eq_self,  n1, n2, i40, i1, i6, hx, i2, lzi]
set_option maxHeartbeats 8000000 in
theorem c18 (H : KC h) {P : Nat → Nat → Int32} (V : okP P) (LDh : LD h P) {o : Nat → Nat} (L : TL h P o) {s n : Nat} (hs : s < 4) (hn : n ≤ 6) {bb : Nat → Nat} (N : HD h s) (B : SB h s n bb) {r : List Nat} (K : rwK n r) {i : Nat} (hi : i < n) (hir : r.contains i = false) (hr : r.length < n) (hat : ∀ j, j ∈ r → gI h 43 j = nI (lyL P o bb (gf r) r.length j)) : aM (d + 2) 18 [.ref 42, .int (nI i), .int (nI (obt (gf r) r.length))] h Q = Q (some (.int (nI (lyX P o bb (gf (r ++ [i])) r.length (lyL P o bb (gf (r ++ [i])) r.length))))) h := by
  obtain ⟨B1, B2⟩ := id B
  have hD : obt (gf r) r.length < 64 := Nat.lt_of_lt_of_le (rwK_lt K) (Nat.pow_le_pow_right (n := 2) (by decide) hn)
  have hbb : ∀ k, k < r.length → bb (gf r k) < 12 := fun k hk => (B2 _ (K.1 k hk)).2
  have ok := fun k hk => (ly_ok V (o := o) (bb := bb) (f := gf r) (g := fun _ => 0) (n := r.length) (by omega) hbb (Nat.le_refl _)).1 k hk
  have hLL : ∀ j, j < n → tb (obt (gf r) r.length) j = true → gI h 43 j = nI (lyL P o bb (gf r) r.length j) ∧ lyL P o bb (gf r) r.length j < 300000 := by
    intro j hj ht
    rw [row_tb, List.contains_iff_mem] at ht
    refine ⟨hat j ht, ?_⟩
    obtain ⟨k, k1, k2⟩ := gf_mem.mpr ht
    have := (ok k k1).2
    rw [k2] at this
    omega
  -- the least place
  obtain ⟨X, hX⟩ : ∃ X, X = lyX P o bb (gf (r ++ [i])) r.length (lyL P o bb (gf (r ++ [i])) r.length) := ⟨_, rfl⟩
  have eL : lyL P o bb (gf (r ++ [i])) r.length = lyL P o bb (gf r) r.length := (ly_congr (fun j hj => gf_app hj)).1
  have eX : X = lwX (fun k => shB P o (bb i) (bb (gf (r ++ [i]) k))) (zS P (bb i)) (fun k => lyL P o bb (gf r) r.length (gf (r ++ [i]) k)) (fun k => zS P (bb (gf (r ++ [i]) k))) r.length := by
    rw [hX]
    unfold lyX
    rw [eL, gf_last]
  have lw := lwX_ok (S := fun k => shB P o (bb i) (bb (gf (r ++ [i]) k))) (z := zS P (bb i)) (L := fun k => lyL P o bb (gf r) r.length (gf (r ++ [i]) k)) (Z := fun k => zS P (bb (gf (r ++ [i]) k))) (n := r.length) (B := 39204 * r.length) (fun k hk => by
    rw [gf_app hk]
    exact (ok k hk).2) (by omega)
  rw [← eX] at lw
  obtain ⟨l1, l2, l3⟩ := lw
  have vIff : ∀ x, vld (fun k => shB P o (bb i) (bb (gf (r ++ [i]) k))) (zS P (bb i)) (fun k => lyL P o bb (gf r) r.length (gf (r ++ [i]) k)) (fun k => zS P (bb (gf (r ++ [i]) k))) r.length x = true ↔ ∀ j, j < n → htB P o bb (lyL P o bb (gf r) r.length) (obt (gf r) r.length) i x j = false := by
    intro x
    rw [vld_iff]
    constructor
    · intro q j hj
      unfold htB
      cases ht : tb (obt (gf r) r.length) j with
      | false => rfl
      | true =>
        obtain ⟨k, k1, k2⟩ := obt_tb.mp ht
        have := q k k1
        rw [gf_app k1, k2] at this
        rw [Bool.true_and]
        exact this
    · intro q k hk
      have := q (gf r k) (K.1 k hk)
      unfold htB at this
      rw [obt_tb.mpr ⟨k, hk, rfl⟩, Bool.true_and] at this
      rw [gf_app hk]
      exact this
  rw [← hX]
  have loop : ∀ (f t x : Nat) (y : Value), t + f < n → upC (tb (obt (gf r) r.length)) (fun j => lyL P o bb (gf r) r.length j + zS P (bb j)) x n ≤ f → x ≤ X → aW (d + 2) 18 5 [.ref 42, .int (nI i), .int (nI (obt (gf r) r.length)), .int (nI x), .int (nI t), y] [] h Q = Q (some (.int (nI X))) h := by
    intro f
    induction f with
    | zero =>
      intro t x y ht hc hx
      have t1 : t < n := by omega
      have c19' : ∀ Q', aM (d + 1) 19 [.ref 42, .int (nI i), .int (nI x), .int (nI (obt (gf r) r.length))] h Q' = Q' (some (.int (oI (fst1 (htB P o bb (lyL P o bb (gf r) r.length) (obt (gf r) r.length) i x) n 0)))) h := fun Q' => c19 H V LDh L hs hn N B hi hD (by omega) hLL
      cases hq : fst1 (htB P o bb (lyL P o bb (gf r) r.length) (obt (gf r) r.length) i x) n 0 with
      | none =>
        rw [hq] at c19'
        have hv := (vIff x).mpr (fun j hj => fst1_none.mp hq j (Nat.zero_le _) (by omega))
        have hxX : x = X := Nat.le_antisymm hx (l3 x hv)
        rw [s18_5, ← hxX]
        simp (disch := first | omega | assumption | exact gtS H hs | exact gt_42 H | (simp only [gT_pA, gT_pI, gT_pR]; first | assumption | exact gtS H hs | exact gt_42 H) | fail) only [s18_0, s18_1, s18_2, s18_3, s18_7, s18_8, s18_11, s18_14, s18_17, s18_18, s18_19, s18_20, s18_21, s18_24, s18_26, s18_28, s18_31, s18_32, s18_33, s18_34, s18_36, s18_39, s18_40, s18_43, s18_46, s18_47, gtS H hs, gt_42 H, am18, isRf_ref, true_and, and_true, aPs_s, aPs_n, b01_0, b01_1, nI_clamp, ix_nI, inb_nI, lt_nI, eq_nI, nn_nI, eq0_nI, pk_mul, nI_add, lt_T, lt_F, if_true, if_false, true_and, and_true, neg1_nI, neg1_lt, neg1_neg, lt_neg1, eqN_F, eq_self,  N.2, B1, t1, c19', oI_n, iflt_m1]
      | some j =>
        exfalso
        obtain ⟨_, j1, j2, _⟩ := fst1_lt hq
        unfold htB at j2
        simp only [Bool.and_eq_true] at j2
        obtain ⟨m1, m2, m3, m4⟩ := meetB_iff.mp j2.2.2
        have := upC_lt (U := tb (obt (gf r) r.length)) (E := fun j => lyL P o bb (gf r) r.length j + zS P (bb j)) (x := x) (y := lyL P o bb (gf r) r.length j + zS P (bb j)) (j := j) (by omega) j2.1 m3 (Nat.le_refl _) (n := n) (by omega)
        omega
    | succ f ih =>
      intro t x y ht hc hx
      have t1 : t < n := by omega
      have c19' : ∀ Q', aM (d + 1) 19 [.ref 42, .int (nI i), .int (nI x), .int (nI (obt (gf r) r.length))] h Q' = Q' (some (.int (oI (fst1 (htB P o bb (lyL P o bb (gf r) r.length) (obt (gf r) r.length) i x) n 0)))) h := fun Q' => c19 H V LDh L hs hn N B hi hD (by omega) hLL
      cases hq : fst1 (htB P o bb (lyL P o bb (gf r) r.length) (obt (gf r) r.length) i x) n 0 with
      | none =>
        rw [hq] at c19'
        have hv := (vIff x).mpr (fun j hj => fst1_none.mp hq j (Nat.zero_le _) (by omega))
        have hxX : x = X := Nat.le_antisymm hx (l3 x hv)
        rw [s18_5, ← hxX]
        simp (disch := first | omega | assumption | exact gtS H hs | exact gt_42 H | (simp only [gT_pA, gT_pI, gT_pR]; first | assumption | exact gtS H hs | exact gt_42 H) | fail) only [s18_0, s18_1, s18_2, s18_3, s18_7, s18_8, s18_11, s18_14, s18_17, s18_18, s18_19, s18_20, s18_21, s18_24, s18_26, s18_28, s18_31, s18_32, s18_33, s18_34, s18_36, s18_39, s18_40, s18_43, s18_46, s18_47, gtS H hs, gt_42 H, am18, isRf_ref, true_and, and_true, aPs_s, aPs_n, b01_0, b01_1, nI_clamp, ix_nI, inb_nI, lt_nI, eq_nI, nn_nI, eq0_nI, pk_mul, nI_add, lt_T, lt_F, if_true, if_false, true_and, and_true, neg1_nI, neg1_lt, neg1_neg, lt_neg1, eqN_F, eq_self,  N.2, B1, t1, c19', oI_n, iflt_m1]
      | some j =>
        rw [hq] at c19'
        obtain ⟨_, j1, j2, _⟩ := fst1_lt hq
        unfold htB at j2
        simp only [Bool.and_eq_true] at j2
        obtain ⟨m1, m2, m3, m4⟩ := meetB_iff.mp j2.2.2
        have jn : j < n := by omega
        obtain ⟨a1, a2⟩ := hLL j jn j2.1
        have hlt := upC_lt (U := tb (obt (gf r) r.length)) (E := fun j => lyL P o bb (gf r) r.length j + zS P (bb j)) (x := x) (y := lyL P o bb (gf r) r.length j + zS P (bb j)) (j := j) (by omega) j2.1 m3 (Nat.le_refl _) (n := n) jn
        have c17' : ∀ Q', aM (d + 1) 17 [.ref 42, .int (nI j)] h Q' = Q' (some (.int (nI (lyL P o bb (gf r) r.length j + zS P (bb j))))) h := fun Q' => c17 H V LDh hs hn N B jn a1 a2
        -- no valid place is skipped
        have hle : lyL P o bb (gf r) r.length j + zS P (bb j) ≤ X := by
          apply Nat.le_of_not_lt
          intro h3
          have hv := (vIff X).mp l1 j jn
          unfold htB at hv
          rw [j2.1, j2.2.1, Bool.true_and, Bool.true_and] at hv
          have : meetB X (zS P (bb i)) (lyL P o bb (gf r) r.length j) (zS P (bb j)) = true := meetB_iff.mpr ⟨m1, m2, h3, by omega⟩
          rw [hv] at this
          cases this
        have ih2 := fun y => ih (t + 1) (lyL P o bb (gf r) r.length j + zS P (bb j)) y (by omega) (by omega) hle
        rw [s18_5]
        simp (disch := first | omega | assumption | exact gtS H hs | exact gt_42 H | (simp only [gT_pA, gT_pI, gT_pR]; first | assumption | exact gtS H hs | exact gt_42 H) | fail) only [s18_0, s18_1, s18_2, s18_3, s18_7, s18_8, s18_11, s18_14, s18_17, s18_18, s18_19, s18_20, s18_21, s18_24, s18_26, s18_28, s18_31, s18_32, s18_33, s18_34, s18_36, s18_39, s18_40, s18_43, s18_46, s18_47, gtS H hs, gt_42 H, am18, isRf_ref, true_and, and_true, aPs_s, aPs_n, b01_0, b01_1, nI_clamp, ix_nI, inb_nI, lt_nI, eq_nI, nn_nI, eq0_nI, pk_mul, nI_add, lt_T, lt_F, if_true, if_false, true_and, and_true, neg1_nI, neg1_lt, neg1_neg, lt_neg1, eqN_F, eq_self,  N.2, B1, t1, c19', oI_s, nn_nI, c17', ih2]
  simp (disch := first | omega | assumption | exact gtS H hs | exact gt_42 H | (simp only [gT_pA, gT_pI, gT_pR]; first | assumption | exact gtS H hs | exact gt_42 H) | fail) only [s18_0, s18_1, s18_2, s18_3, s18_7, s18_8, s18_11, s18_14, s18_17, s18_18, s18_19, s18_20, s18_21, s18_24, s18_26, s18_28, s18_31, s18_32, s18_33, s18_34, s18_36, s18_39, s18_40, s18_43, s18_46, s18_47, gtS H hs, gt_42 H, am18, isRf_ref, true_and, and_true, aPs_s, aPs_n, b01_0, b01_1, nI_clamp, ix_nI, inb_nI, lt_nI, eq_nI, nn_nI, eq0_nI, pk_mul, nI_add, lt_T, lt_F, if_true, if_false, true_and, and_true, neg1_nI, neg1_lt, neg1_neg, lt_neg1, eqN_F, eq_self, ]
  refine loop r.length 0 0 _ (by omega) ?_ (Nat.zero_le _)
  exact Nat.le_trans upC_le (Nat.le_of_eq K.2)
end C16
