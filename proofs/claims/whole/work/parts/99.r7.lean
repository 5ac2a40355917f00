/-! BOTH SIDES, call by call: the SHEETS, the TAPE -/
theorem so_cs (sort : Int32) : (sort = -1 ∧ srB sort = true) ∨ (∃ j, j < 3 ∧ sort = nI j ∧ plc sort 3 = some j ∧ srB sort = true) ∨ (sort ≠ -1 ∧ plc sort 3 = none ∧ srB sort = false) := by
  rcases Bool.eq_false_or_eq_true (srB sort) with g | g
  · rcases srB_of g with h | ⟨j, hj, h⟩
    · exact Or.inl ⟨h, g⟩
    · subst h
      exact Or.inr (Or.inl ⟨j, hj, rfl, plc_nI hj (by omega), g⟩)
  · refine Or.inr (Or.inr ⟨?_, ?_, g⟩)
    · intro h
      rw [h] at g
      exact absurd g (by decide +kernel)
    · rcases plc_or sort 3 (by omega) with ⟨j, hj, h, e⟩ | e
      · rw [h] at g
        rcases (show j = 0 ∨ j = 1 ∨ j = 2 by omega) with rfl | rfl | rfl <;> exact absurd g (by decide +kernel)
      · exact e
theorem gtN {h : abH} (H : KC h) {s : Nat} (hs : s < 4) : gT h (58 + 2 * s) = some (0, 40) := by
  rcases (show s = 0 ∨ s = 1 ∨ s = 2 ∨ s = 3 by omega) with rfl | rfl | rfl | rfl
  · exact gt_58 H
  · exact gt_60 H
  · exact gt_62 H
  · exact gt_64 H
theorem sp_1 {z : Nat} {i : Int32} (hz : z ≤ 40) : spB (nI z) i (nI 1) = (plc i z).isSome := by
  have e0 : (0 : Int32).toInt = 0 := by decide
  have e1 : (nI 1).toInt = 1 := by decide
  have ez := nI_toInt (n := z) (by omega)
  rcases plc_cases i z (by omega) with ⟨j, hj, rfl, e⟩ | ⟨e, f1, f2⟩ | ⟨e, f1, f2, f3, f4⟩
  · rw [e]
    refine decide_eq_true ⟨by decide, by rw [nn_nI (by omega)]; exact not_false, ?_⟩
    rw [nI_toInt (by omega), e1, ez]
    omega
  · rw [e]
    exact decide_eq_false (fun q => q.2.1 (of_eq_true f1))
  · rw [e]
    refine decide_eq_false (fun q => ?_)
    have q3 := q.2.2
    have g := of_eq_false f3
    rw [Int32.lt_iff_toInt_lt, ez] at g
    rw [e1, ez] at q3
    omega
section R7
variable {d : Nat} {h0 h : abH} {Q : Option Value → abH → Prop}
def S9 : Nat → Nat → Prop := fun o _ => (57 ≤ o ∧ o ≤ 64) ∨ (94 ≤ o ∧ o ≤ 96)
theorem Rel_9 {h0 h h' : abH} {p : Nat} {P : Nat → Nat → Int32} {tl : Option (Nat → Nat)} (F : Fr S9 dT h h') (r1 : R1 h0 h) (r2 : R2 h p P tl) (r3 : R3 h P) (r4 : R4 h) (r5 : R5 h) (r6 : R6 h) (r7 : R7 h P) (r8 : R8 h P) (r9 : R9 h') (ra : RA h) (rb : RB h) : Rel h0 h' := ⟨p, P, tl, R1_fr (Fr_pT F) (by intro o k; simp only [D1, S9]; omega) r1, R2_fr F (by intro o k; simp only [D2, S9]; omega) r2, R3_fr F (by intro o k; simp only [D3, S9]; omega) r3, R4_fr F (by intro o k; simp only [D4, S9]; omega) r4, R5_fr F (by intro o k; simp only [D5, S9]; omega) r5, R6_fr F (by intro o k; simp only [D6, S9]; omega) r6, R7_fr F (by intro o k; simp only [D7, S9]; omega) r7, R8_fr F (by intro o k; simp only [D8, S9]; omega) r8, r9, RA_fr F (by intro o k; simp only [DA, S9]; omega) ra, RB_fr F (by intro o k; simp only [DB, S9]; omega) rb⟩
theorem Fr_bc {s : Nat} (hs : s < 4) {t n n2 : Int32} : Fr S9 dT h (shX (bcH h s t n 40) s t n2) := by
  unfold shX bcH
  refine Fr_trans (Fr_trans (Fr_trans (Fr_trans (Fr_trans (Fr_pI ?_) (Fr_pI ?_)) (Fr_pA (fun k => ?_))) (Fr_pA (fun k => ?_))) (Fr_pA (fun k => ?_))) (Fr_pA (fun k => ?_)) <;> (unfold S9; omega)
theorem R9_bc (r9 : R9 h) {s : Nat} (hs : s < 4) {t n n2 : Int32} (b1 : t = -1 ∨ bn t 3) (b2 : bn n 41) (e2 : (if t = -1 then nI 0 else n2) = n) : R9 (shX (bcH h s t n 40) s t n2) := by
  have x1 : ∀ o k, o ≠ 57 + 2 * s → o ≠ 58 + 2 * s → gI (bcH h s t n 40) o k = gI h o k := by
    intro o k q1 q2
    unfold bcH
    rw [gI_ne q2, gI_pI, if_neg (fun q => q1 q.1), gI_pI, if_neg (fun q => q1 q.1)]
  have y1 : ∀ o k, o < 94 → gI (shX (bcH h s t n 40) s t n2) o k = gI (bcH h s t n 40) o k := by
    intro o k q
    unfold shX
    rw [gI_ne (by omega), gI_ne (by omega), gI_ne (by omega)]
  have x2 : gI (bcH h s t n 40) (57 + 2 * s) 0 = t := by
    unfold bcH
    rw [gI_ne (by omega), gI_pI, if_neg (by omega), gI_pI, if_pos ⟨rfl, rfl⟩]
  have x3 : gI (bcH h s t n 40) (57 + 2 * s) 1 = n := by
    unfold bcH
    rw [gI_ne (by omega), gI_pI, if_pos ⟨rfl, rfl⟩]
  have x4 : ∀ k, k < 40 → gI (bcH h s t n 40) (58 + 2 * s) k = nI 0 := by
    intro k hk
    unfold bcH
    rw [gI_eq, pre_in hk]
  have y94 : gI (shX (bcH h s t n 40) s t n2) 94 = upd (gI h 94) s t := by
    unfold shX
    rw [gI_ne (by omega), gI_ne (by omega), gI_eq]
    congr 1
    funext k
    exact x1 94 k (by omega) (by omega)
  have y95 : gI (shX (bcH h s t n 40) s t n2) 95 = upd (gI h 95) s n := by
    unfold shX
    rw [gI_ne (by omega), gI_eq, e2]
    congr 1
    funext k
    exact x1 95 k (by omega) (by omega)
  have y96 : gI (shX (bcH h s t n 40) s t n2) 96 = zr (gI h 96) s 40 := by
    unfold shX
    rw [gI_eq]
    congr 1
    funext k
    exact x1 96 k (by omega) (by omega)
  intro s' hs'
  rw [y94, y95, y96, y1 _ _ (by omega), y1 _ _ (by omega)]
  by_cases e : s' = s
  · subst e
    rw [x2, x3, upd_eq, upd_eq]
    refine ⟨rfl, rfl, b1, b2, fun k hk => ?_⟩
    rw [y1 _ _ (by omega), x4 k hk]
    unfold zr
    rw [if_pos (by omega)]
  · obtain ⟨z0, z1, zs, zz, zk⟩ := r9 s' hs'
    rw [x1 _ _ (by omega) (by omega), x1 _ _ (by omega) (by omega), upd_ne e, upd_ne e]
    refine ⟨z0, z1, zs, zz, fun k hk => ?_⟩
    rw [y1 _ _ (by omega), x1 _ _ (by omega) (by omega), zk k hk]
    unfold zr
    rw [if_neg (by omega)]
set_option maxHeartbeats 8000000 in
theorem p_sheet (R : Rel h0 h) {k sort n : Int32} : Pr d h0 h 124 213 [.ref 2, .int k, .int sort, .int n] [.ref 65, .int k, .int sort, .int n] := by
  have R' := R
  obtain ⟨p, P, tl, r1, r2, r3, r4, r5, r6, r7, r8, r9, ra, rb⟩ := R
  have R0 := r1
  obtain ⟨-, -, H, HM, AB0⟩ := R0
  have R0 := r2
  obtain ⟨hp, r21, r22, hP, W, Tv, T, h29, hw, TMh⟩ := R0
  have V := W.1
  have s10 := V.s.1
  have C := TMh.1.1
  have f3 := TMh.2.2.1
  have t2 := TMh.2.2.2
  have c129' : ∀ Q', aM (d + 19) 129 [.int k] h Q' = Q' (some (.int (zB (plc k 4).isSome))) h := fun Q' => c129
  have c130' : ∀ Q', aM (d + 19) 130 [.int sort] h Q' = Q' (some (.int (zB (plc sort 3).isSome))) h := fun Q' => c130
  rcases plc_or k 4 (by omega) with ⟨s, hs, rfl, e⟩ | e
  · rw [e] at c129'
    have same : shA sort n ≠ nI 1 → (∀ Q, aM (d + 20) 124 [.ref 2, .int (nI s), .int sort, .int n] h Q = Q (some (.int (shA sort n))) h) → Pr d h0 h 124 213 [.ref 2, .int (nI s), .int sort, .int n] [.ref 65, .int (nI s), .int sort, .int n] := fun g c => Pr_e (h1 := h) (h2 := h) c (fun Q => by rw [c213 HM, e]; simp only [if_neg g]) R'
    have chg : ∀ m, shA sort n = nI 1 → (if sort = -1 then nI 0 else n) = m → (sort = -1 ∨ bn sort 3) → bn m 41 → (∀ Q, aM (d + 20) 124 [.ref 2, .int (nI s), .int sort, .int n] h Q = Q (some (.int (nI 1))) (bcH h s sort m 40)) → Pr d h0 h 124 213 [.ref 2, .int (nI s), .int sort, .int n] [.ref 65, .int (nI s), .int sort, .int n] := by
      intro m g em b1 b2 c
      have M1 : KM (bcH h s sort m 40) := HM
      exact Pr_e (h1 := bcH h s sort m 40) (h2 := shX (bcH h s sort m 40) s sort n) c (fun Q => by rw [c213 M1, e]; simp only [if_pos g]) (Rel_9 (Fr_bc hs) r1 r2 r3 r4 r5 r6 r7 r8 (R9_bc r9 hs b1 b2 em) ra rb)
    rcases so_cs sort with ⟨rfl, g⟩ | ⟨j, hj, rfl, ej, g⟩ | ⟨hn, ej, g⟩
    · refine chg (nI 0) ?_ (if_pos rfl) (Or.inl rfl) (bn_nI (by omega) (by omega)) (fun Q => ?_)
      · unfold shA
        simp only [g, Bool.true_eq_false, if_false, if_true]
      · have c78' : ∀ Q', aM (d + 19) 78 [.ref (57 + 2 * s), .int (-1), .int (nI 0)] h Q' = Q' none (bcH h s (-1) (nI 0) 40) := fun Q' => c78 H hs
        simp (disch := first | omega | assumption | exact gtS H hs | exact gt_2 H | (simp only [gT_pA, gT_pI, gT_pR]; first | assumption | exact gtS H hs | exact gt_2 H) | fail) only [s124_0, s124_1, s124_4, s124_7, s124_8, s124_9, s124_12, s124_13, s124_16, s124_19, s124_21, s124_22, s124_23, s124_24, s124_27, s124_28, s124_31, s124_32, s124_33, s124_34, s124_35, s124_38, s124_39, s124_40, s124_41, s124_43, s124_46, s124_48, s124_49, s124_50, s124_53, s124_55, s124_56, s124_57, s124_60, s124_61, s124_62, s124_63, s124_64, s124_67, s124_68, aq_56 H, grS H hs, gr_2_12 H, gtS H hs, gt_2 H, am124, isRf_ref, true_and, and_true, aPs_s, aPs_n, b01_0, b01_1, nI_clamp, ix_nI, inb_nI, lt_nI, eq_nI, nn_nI, eq0_nI, pk_mul, nI_add, lt_T, lt_F, if_true, if_false, true_and, and_true, neg1_nI, neg1_lt, neg1_neg, lt_neg1, eqN_F, eq_self,  c129', Option.isSome_some, Bool.not_false, Bool.not_true, Bool.true_and, Bool.false_and, Bool.and_true, Bool.and_false, Bool.or_true, Bool.or_false, Bool.true_or, Bool.false_or, Bool.true_eq_false, Bool.false_eq_true, if_true, if_false, Option.isSome_some, Option.isSome_none, Option.isNone_some, Option.isNone_none, zB_t, zB_f, nI1_0, nI0_0, c78']
    · have n1 : (nI j = -1) = False := neg1_nI (by omega)
      rw [ej] at c130'
      have ea : shA (nI j) n = if nI 40 < n then -2 else if n < 0 then -14 else nI 1 := by
        unfold shA
        simp only [g, Bool.true_eq_false, if_false, n1]
      by_cases h2 : nI 40 < n
      · have ea2 : shA (nI j) n = -2 := by rw [ea, if_pos h2]
        refine same (by rw [ea2]; decide +kernel) (fun Q => ?_)
        rw [ea2]
        simp (disch := first | omega | assumption | exact gtS H hs | exact gt_2 H | (simp only [gT_pA, gT_pI, gT_pR]; first | assumption | exact gtS H hs | exact gt_2 H) | fail) only [s124_0, s124_1, s124_4, s124_7, s124_8, s124_9, s124_12, s124_13, s124_16, s124_19, s124_21, s124_22, s124_23, s124_24, s124_27, s124_28, s124_31, s124_32, s124_33, s124_34, s124_35, s124_38, s124_39, s124_40, s124_41, s124_43, s124_46, s124_48, s124_49, s124_50, s124_53, s124_55, s124_56, s124_57, s124_60, s124_61, s124_62, s124_63, s124_64, s124_67, s124_68, aq_56 H, grS H hs, gr_2_12 H, gtS H hs, gt_2 H, am124, isRf_ref, true_and, and_true, aPs_s, aPs_n, b01_0, b01_1, nI_clamp, ix_nI, inb_nI, lt_nI, eq_nI, nn_nI, eq0_nI, pk_mul, nI_add, lt_T, lt_F, if_true, if_false, true_and, and_true, neg1_nI, neg1_lt, neg1_neg, lt_neg1, eqN_F, eq_self,  c129', c130', Option.isSome_some, Bool.not_false, Bool.not_true, Bool.true_and, Bool.false_and, Bool.and_true, Bool.and_false, Bool.or_true, Bool.or_false, Bool.true_or, Bool.false_or, Bool.true_eq_false, Bool.false_eq_true, if_true, if_false, Option.isSome_some, Option.isSome_none, Option.isNone_some, Option.isNone_none, zB_t, zB_f, nI1_0, nI0_0, n1, h2]
      · by_cases h3 : n < 0
        · have ea2 : shA (nI j) n = -14 := by rw [ea, if_neg h2, if_pos h3]
          refine same (by rw [ea2]; decide +kernel) (fun Q => ?_)
          rw [ea2]
          simp (disch := first | omega | assumption | exact gtS H hs | exact gt_2 H | (simp only [gT_pA, gT_pI, gT_pR]; first | assumption | exact gtS H hs | exact gt_2 H) | fail) only [s124_0, s124_1, s124_4, s124_7, s124_8, s124_9, s124_12, s124_13, s124_16, s124_19, s124_21, s124_22, s124_23, s124_24, s124_27, s124_28, s124_31, s124_32, s124_33, s124_34, s124_35, s124_38, s124_39, s124_40, s124_41, s124_43, s124_46, s124_48, s124_49, s124_50, s124_53, s124_55, s124_56, s124_57, s124_60, s124_61, s124_62, s124_63, s124_64, s124_67, s124_68, aq_56 H, grS H hs, gr_2_12 H, gtS H hs, gt_2 H, am124, isRf_ref, true_and, and_true, aPs_s, aPs_n, b01_0, b01_1, nI_clamp, ix_nI, inb_nI, lt_nI, eq_nI, nn_nI, eq0_nI, pk_mul, nI_add, lt_T, lt_F, if_true, if_false, true_and, and_true, neg1_nI, neg1_lt, neg1_neg, lt_neg1, eqN_F, eq_self,  c129', c130', Option.isSome_some, Bool.not_false, Bool.not_true, Bool.true_and, Bool.false_and, Bool.and_true, Bool.and_false, Bool.or_true, Bool.or_false, Bool.true_or, Bool.false_or, Bool.true_eq_false, Bool.false_eq_true, if_true, if_false, Option.isSome_some, Option.isSome_none, Option.isNone_some, Option.isNone_none, zB_t, zB_f, nI1_0, nI0_0, n1, h2, h3]
        · have ea2 : shA (nI j) n = nI 1 := by rw [ea, if_neg h2, if_neg h3]
          obtain ⟨e1, e2⟩ := nI_nonneg h3
          have h2' := h2
          rw [e1, lt_nI (by omega) e2] at h2'
          refine chg n ea2 (by rw [if_neg (by rw [n1]; exact not_false)]) (Or.inr (bn_nI hj (by omega))) (by rw [e1]; exact bn_nI (by omega) (by omega)) (fun Q => ?_)
          have c78' : ∀ Q', aM (d + 19) 78 [.ref (57 + 2 * s), .int (nI j), .int n] h Q' = Q' none (bcH h s (nI j) n 40) := fun Q' => c78 H hs
          simp (disch := first | omega | assumption | exact gtS H hs | exact gt_2 H | (simp only [gT_pA, gT_pI, gT_pR]; first | assumption | exact gtS H hs | exact gt_2 H) | fail) only [s124_0, s124_1, s124_4, s124_7, s124_8, s124_9, s124_12, s124_13, s124_16, s124_19, s124_21, s124_22, s124_23, s124_24, s124_27, s124_28, s124_31, s124_32, s124_33, s124_34, s124_35, s124_38, s124_39, s124_40, s124_41, s124_43, s124_46, s124_48, s124_49, s124_50, s124_53, s124_55, s124_56, s124_57, s124_60, s124_61, s124_62, s124_63, s124_64, s124_67, s124_68, aq_56 H, grS H hs, gr_2_12 H, gtS H hs, gt_2 H, am124, isRf_ref, true_and, and_true, aPs_s, aPs_n, b01_0, b01_1, nI_clamp, ix_nI, inb_nI, lt_nI, eq_nI, nn_nI, eq0_nI, pk_mul, nI_add, lt_T, lt_F, if_true, if_false, true_and, and_true, neg1_nI, neg1_lt, neg1_neg, lt_neg1, eqN_F, eq_self,  c129', c130', Option.isSome_some, Bool.not_false, Bool.not_true, Bool.true_and, Bool.false_and, Bool.and_true, Bool.and_false, Bool.or_true, Bool.or_false, Bool.true_or, Bool.false_or, Bool.true_eq_false, Bool.false_eq_true, if_true, if_false, Option.isSome_some, Option.isSome_none, Option.isNone_some, Option.isNone_none, zB_t, zB_f, nI1_0, nI0_0, n1, h2, h3, c78']
    · rw [ej] at c130'
      have ea2 : shA sort n = -2 := by
        unfold shA
        rw [if_pos g]
      refine same (by rw [ea2]; decide +kernel) (fun Q => ?_)
      rw [ea2]
      simp (disch := first | omega | assumption | exact gtS H hs | exact gt_2 H | (simp only [gT_pA, gT_pI, gT_pR]; first | assumption | exact gtS H hs | exact gt_2 H) | fail) only [s124_0, s124_1, s124_4, s124_7, s124_8, s124_9, s124_12, s124_13, s124_16, s124_19, s124_21, s124_22, s124_23, s124_24, s124_27, s124_28, s124_31, s124_32, s124_33, s124_34, s124_35, s124_38, s124_39, s124_40, s124_41, s124_43, s124_46, s124_48, s124_49, s124_50, s124_53, s124_55, s124_56, s124_57, s124_60, s124_61, s124_62, s124_63, s124_64, s124_67, s124_68, aq_56 H, grS H hs, gr_2_12 H, gtS H hs, gt_2 H, am124, isRf_ref, true_and, and_true, aPs_s, aPs_n, b01_0, b01_1, nI_clamp, ix_nI, inb_nI, lt_nI, eq_nI, nn_nI, eq0_nI, pk_mul, nI_add, lt_T, lt_F, if_true, if_false, true_and, and_true, neg1_nI, neg1_lt, neg1_neg, lt_neg1, eqN_F, eq_self,  c129', c130', Option.isSome_some, Option.isSome_none, Bool.not_false, Bool.not_true, Bool.true_and, Bool.false_and, Bool.and_true, Bool.and_false, Bool.or_true, Bool.or_false, Bool.true_or, Bool.false_or, Bool.true_eq_false, Bool.false_eq_true, if_true, if_false, Option.isSome_some, Option.isSome_none, Option.isNone_some, Option.isNone_none, zB_t, zB_f, nI1_0, nI0_0, hn]
  · rw [e] at c129'
    refine Pr_e (h1 := h) (h2 := h) (v := -2) (fun Q => ?_) (fun Q => by rw [c213 HM, e]) R'
    have hs : 0 < 4 := by omega
    simp (disch := first | omega | assumption | exact gtS H hs | exact gt_2 H | (simp only [gT_pA, gT_pI, gT_pR]; first | assumption | exact gtS H hs | exact gt_2 H) | fail) only [s124_0, s124_1, s124_4, s124_7, s124_8, s124_9, s124_12, s124_13, s124_16, s124_19, s124_21, s124_22, s124_23, s124_24, s124_27, s124_28, s124_31, s124_32, s124_33, s124_34, s124_35, s124_38, s124_39, s124_40, s124_41, s124_43, s124_46, s124_48, s124_49, s124_50, s124_53, s124_55, s124_56, s124_57, s124_60, s124_61, s124_62, s124_63, s124_64, s124_67, s124_68, aq_56 H, grS H hs, gr_2_12 H, gtS H hs, gt_2 H, am124, isRf_ref, true_and, and_true, aPs_s, aPs_n, b01_0, b01_1, nI_clamp, ix_nI, inb_nI, lt_nI, eq_nI, nn_nI, eq0_nI, pk_mul, nI_add, lt_T, lt_F, if_true, if_false, true_and, and_true, neg1_nI, neg1_lt, neg1_neg, lt_neg1, eqN_F, eq_self,  c129', Option.isSome_none, Bool.not_false, Bool.not_true, Bool.true_and, Bool.false_and, Bool.and_true, Bool.and_false, Bool.or_true, Bool.or_false, Bool.true_or, Bool.false_or, Bool.true_eq_false, Bool.false_eq_true, if_true, if_false, Option.isSome_some, Option.isSome_none, Option.isNone_some, Option.isNone_none, zB_t, zB_f, nI1_0, nI0_0]
set_option maxHeartbeats 8000000 in
theorem p_cell (R : Rel h0 h) {k i v : Int32} : Pr d h0 h 125 214 [.ref 2, .int k, .int i, .int v] [.ref 65, .int k, .int i, .int v] := by
  have R' := R
  obtain ⟨p, P, tl, r1, r2, r3, r4, r5, r6, r7, r8, r9, ra, rb⟩ := R
  have R0 := r1
  obtain ⟨-, -, H, HM, AB0⟩ := R0
  have R0 := r2
  obtain ⟨hp, r21, r22, hP, W, Tv, T, h29, hw, TMh⟩ := R0
  have V := W.1
  have s10 := V.s.1
  have C := TMh.1.1
  have f3 := TMh.2.2.1
  have t2 := TMh.2.2.2
  have c129' : ∀ Q', aM (d + 19) 129 [.int k] h Q' = Q' (some (.int (zB (plc k 4).isSome))) h := fun Q' => c129
  have hz9 : ∀ s, s < 4 → bn (gI h 95 s) 41 := fun s hs => (r9 s hs).2.2.2.1
  rcases plc_or k 4 (by omega) with ⟨s, hs, rfl, e⟩ | e
  · rw [e] at c129'
    obtain ⟨z0, z1, zs, zz, zk⟩ := r9 s hs
    obtain ⟨z, hz, ez⟩ := bn_of zz
    have ixz : ix (nI z) = z := ix_nI (by omega)
    by_cases h1 : gI h 94 s = -1
    · refine Pr_e (h1 := h) (h2 := h) (v := -11) (fun Q => ?_) (fun Q => by rw [c214 HM hz9, e]; simp only [h1, if_true]) R'
      simp (disch := first | omega | assumption | exact gtS H hs | exact gt_2 H | (simp only [gT_pA, gT_pI, gT_pR]; first | assumption | exact gtS H hs | exact gt_2 H) | fail) only [s125_0, s125_1, s125_4, s125_7, s125_9, s125_10, s125_11, s125_14, s125_15, s125_16, s125_19, s125_20, s125_23, s125_25, s125_26, s125_27, s125_30, s125_31, s125_32, s125_33, s125_34, s125_37, s125_40, s125_42, s125_43, s125_44, s125_47, s125_48, s125_49, s125_50, s125_51, s125_54, s125_55, aq_56 H, grS H hs, gr_2_12 H, gtS H hs, gt_2 H, am125, isRf_ref, true_and, and_true, aPs_s, aPs_n, b01_0, b01_1, nI_clamp, ix_nI, inb_nI, lt_nI, eq_nI, nn_nI, eq0_nI, pk_mul, nI_add, lt_T, lt_F, if_true, if_false, true_and, and_true, neg1_nI, neg1_lt, neg1_neg, lt_neg1, eqN_F, eq_self,  c129', Option.isSome_some, Bool.not_false, Bool.not_true, Bool.true_and, Bool.false_and, Bool.and_true, Bool.and_false, Bool.or_true, Bool.or_false, Bool.true_or, Bool.false_or, Bool.true_eq_false, Bool.false_eq_true, if_true, if_false, Option.isSome_some, Option.isSome_none, Option.isNone_some, Option.isNone_none, zB_t, zB_f, nI1_0, nI0_0, z0, h1]
    · have c80' : ∀ Q', aM (d + 19) 80 [.ref (57 + 2 * s), .int i, .int (nI 1)] h Q' = Q' (some (.int (zB (plc i z).isSome))) h := fun Q' => by rw [c80 H hs (by omega) (z1.trans ez), sp_1 (by omega)]
      rcases plc_or i z (by omega) with ⟨j, hj, rfl, e2⟩ | e2
      · rw [e2] at c80'
        have c79' : ∀ Q', aM (d + 19) 79 [.ref (57 + 2 * s), .int (nI j), .int v] h Q' = Q' none (pI h (58 + 2 * s) j (clV (gI h 94 s) v)) := fun Q' => by rw [c79 H hs (by omega), z0]
        have M1 : KM (pI h (58 + 2 * s) j (clV (gI h 94 s) v)) := HM
        have x1 : ∀ o k, 94 ≤ o → gI (pI h (58 + 2 * s) j (clV (gI h 94 s) v)) o k = gI h o k := fun o k q => by rw [gI_pI, if_neg (by omega)]
        have F1 : Fr S9 dT h (pI h (58 + 2 * s) j (clV (gI h 94 s) v)) := Fr_pI (by unfold S9; omega)
        have F2 : Fr S9 dT (pI h (58 + 2 * s) j (clV (gI h 94 s) v)) (pI (pI h (58 + 2 * s) j (clV (gI h 94 s) v)) 96 (40 * s + j) (clV (gI h 94 s) v)) := Fr_pI (by unfold S9; omega)
        refine Pr_e (h1 := pI h (58 + 2 * s) j (clV (gI h 94 s) v)) (h2 := pI (pI h (58 + 2 * s) j (clV (gI h 94 s) v)) 96 (40 * s + j) (clV (gI h 94 s) v)) (v := nI 1) (fun Q => ?_) (fun Q => by rw [c214 M1 (fun s hs => by rw [x1 _ _ (by omega)]; exact hz9 s hs), e]; simp only [x1 94 s (by omega), x1 95 s (by omega), h1, if_false, ez, ixz, e2]) ?_
        · simp (disch := first | omega | assumption | exact gtS H hs | exact gt_2 H | (simp only [gT_pA, gT_pI, gT_pR]; first | assumption | exact gtS H hs | exact gt_2 H) | fail) only [s125_0, s125_1, s125_4, s125_7, s125_9, s125_10, s125_11, s125_14, s125_15, s125_16, s125_19, s125_20, s125_23, s125_25, s125_26, s125_27, s125_30, s125_31, s125_32, s125_33, s125_34, s125_37, s125_40, s125_42, s125_43, s125_44, s125_47, s125_48, s125_49, s125_50, s125_51, s125_54, s125_55, aq_56 H, grS H hs, gr_2_12 H, gtS H hs, gt_2 H, am125, isRf_ref, true_and, and_true, aPs_s, aPs_n, b01_0, b01_1, nI_clamp, ix_nI, inb_nI, lt_nI, eq_nI, nn_nI, eq0_nI, pk_mul, nI_add, lt_T, lt_F, if_true, if_false, true_and, and_true, neg1_nI, neg1_lt, neg1_neg, lt_neg1, eqN_F, eq_self,  c129', Option.isSome_some, Bool.not_false, Bool.not_true, Bool.true_and, Bool.false_and, Bool.and_true, Bool.and_false, Bool.or_true, Bool.or_false, Bool.true_or, Bool.false_or, Bool.true_eq_false, Bool.false_eq_true, if_true, if_false, Option.isSome_some, Option.isSome_none, Option.isNone_some, Option.isNone_none, zB_t, zB_f, nI1_0, nI0_0, z0, h1, c80', c79']
        · refine Rel_9 (Fr_trans F1 F2) r1 r2 r3 r4 r5 r6 r7 r8 (fun s' hs' => ?_) ra rb
          obtain ⟨y0, y1, ys, yy, yk⟩ := r9 s' hs'
          rw [gI_pI, if_neg (by omega), gI_pI, if_neg (by omega), gI_pI, if_neg (by omega), gI_pI, if_neg (by omega), gI_pI, if_neg (by omega), gI_pI, if_neg (by omega), gI_pI, if_neg (by omega), gI_pI, if_neg (by omega)]
          refine ⟨y0, y1, ys, yy, fun k hk => ?_⟩
          by_cases e5 : s' = s ∧ k = j
          · obtain ⟨rfl, rfl⟩ := e5
            rw [gI_pI, if_neg (by omega), gI_pI, if_pos ⟨rfl, rfl⟩, gI_pI, if_pos ⟨rfl, rfl⟩]
          · rw [gI_pI, if_neg (by omega), gI_pI, if_neg (by omega), gI_pI, if_neg (by omega), gI_pI, if_neg (by omega)]
            exact yk k hk
      · rw [e2] at c80'
        refine Pr_e (h1 := h) (h2 := h) (v := -12) (fun Q => ?_) (fun Q => by rw [c214 HM hz9, e]; simp only [h1, if_false, ez, ixz, e2]) R'
        simp (disch := first | omega | assumption | exact gtS H hs | exact gt_2 H | (simp only [gT_pA, gT_pI, gT_pR]; first | assumption | exact gtS H hs | exact gt_2 H) | fail) only [s125_0, s125_1, s125_4, s125_7, s125_9, s125_10, s125_11, s125_14, s125_15, s125_16, s125_19, s125_20, s125_23, s125_25, s125_26, s125_27, s125_30, s125_31, s125_32, s125_33, s125_34, s125_37, s125_40, s125_42, s125_43, s125_44, s125_47, s125_48, s125_49, s125_50, s125_51, s125_54, s125_55, aq_56 H, grS H hs, gr_2_12 H, gtS H hs, gt_2 H, am125, isRf_ref, true_and, and_true, aPs_s, aPs_n, b01_0, b01_1, nI_clamp, ix_nI, inb_nI, lt_nI, eq_nI, nn_nI, eq0_nI, pk_mul, nI_add, lt_T, lt_F, if_true, if_false, true_and, and_true, neg1_nI, neg1_lt, neg1_neg, lt_neg1, eqN_F, eq_self,  c129', Option.isSome_some, Option.isSome_none, Bool.not_false, Bool.not_true, Bool.true_and, Bool.false_and, Bool.and_true, Bool.and_false, Bool.or_true, Bool.or_false, Bool.true_or, Bool.false_or, Bool.true_eq_false, Bool.false_eq_true, if_true, if_false, Option.isSome_some, Option.isSome_none, Option.isNone_some, Option.isNone_none, zB_t, zB_f, nI1_0, nI0_0, z0, h1, c80']
  · rw [e] at c129'
    refine Pr_e (h1 := h) (h2 := h) (v := -2) (fun Q => ?_) (fun Q => by rw [c214 HM hz9, e]) R'
    have hs : 0 < 4 := by omega
    simp (disch := first | omega | assumption | exact gtS H hs | exact gt_2 H | (simp only [gT_pA, gT_pI, gT_pR]; first | assumption | exact gtS H hs | exact gt_2 H) | fail) only [s125_0, s125_1, s125_4, s125_7, s125_9, s125_10, s125_11, s125_14, s125_15, s125_16, s125_19, s125_20, s125_23, s125_25, s125_26, s125_27, s125_30, s125_31, s125_32, s125_33, s125_34, s125_37, s125_40, s125_42, s125_43, s125_44, s125_47, s125_48, s125_49, s125_50, s125_51, s125_54, s125_55, aq_56 H, grS H hs, gr_2_12 H, gtS H hs, gt_2 H, am125, isRf_ref, true_and, and_true, aPs_s, aPs_n, b01_0, b01_1, nI_clamp, ix_nI, inb_nI, lt_nI, eq_nI, nn_nI, eq0_nI, pk_mul, nI_add, lt_T, lt_F, if_true, if_false, true_and, and_true, neg1_nI, neg1_lt, neg1_neg, lt_neg1, eqN_F, eq_self,  c129', Option.isSome_none, Bool.not_false, Bool.not_true, Bool.true_and, Bool.false_and, Bool.and_true, Bool.and_false, Bool.or_true, Bool.or_false, Bool.true_or, Bool.false_or, Bool.true_eq_false, Bool.false_eq_true, if_true, if_false, Option.isSome_some, Option.isSome_none, Option.isNone_some, Option.isNone_none, zB_t, zB_f, nI1_0, nI0_0]
set_option maxHeartbeats 8000000 in
theorem p_copy (R : Rel h0 h) {k i k2 j n : Int32} : Pr d h0 h 126 215 [.ref 2, .int k, .int i, .int k2, .int j, .int n] [.ref 65, .int k, .int i, .int k2, .int j, .int n] := by
  have R' := R
  obtain ⟨p, P, tl, r1, r2, r3, r4, r5, r6, r7, r8, r9, ra, rb⟩ := R
  have R0 := r1
  obtain ⟨-, -, H, HM, AB0⟩ := R0
  have R0 := r2
  obtain ⟨hp, r21, r22, hP, W, Tv, T, h29, hw, TMh⟩ := R0
  have V := W.1
  have s10 := V.s.1
  have C := TMh.1.1
  have f3 := TMh.2.2.1
  have t2 := TMh.2.2.2
  have c129' : ∀ Q', aM (d + 19) 129 [.int k] h Q' = Q' (some (.int (zB (plc k 4).isSome))) h := fun Q' => c129
  have c129'' : ∀ Q', aM (d + 19) 129 [.int k2] h Q' = Q' (some (.int (zB (plc k2 4).isSome))) h := fun Q' => c129
  have hz9 : ∀ s, s < 4 → bn (gI h 95 s) 41 := fun s hs => (r9 s hs).2.2.2.1
  rcases plc_or k 4 (by omega) with ⟨s, hs, rfl, e⟩ | e
  · rw [e] at c129'
    rcases plc_or k2 4 (by omega) with ⟨t, ht, rfl, e'⟩ | e'
    · rw [e'] at c129''
      obtain ⟨z0, z1, zs, zz, zk⟩ := r9 s hs
      obtain ⟨z, hz, ez⟩ := bn_of zz
      obtain ⟨y0, y1, ys, yy, yk⟩ := r9 t ht
      obtain ⟨y, hy, ey⟩ := bn_of yy
      have tS := gtS H ht
      have tR := grS H ht
      have tN := grS2 H ht
      have no1 : ¬ (plc (nI s) 4 = none ∨ plc (nI t) 4 = none) := by
        rintro (q | q)
        · rw [e] at q; cases q
        · rw [e'] at q; cases q
      have so : ∀ s', plc (nI s) 4 = some s' → s' = s := fun s' q => by rw [e] at q; cases q; rfl
      have to : ∀ t', plc (nI t) 4 = some t' → t' = t := fun t' q => by rw [e'] at q; cases q; rfl
      by_cases h1 : gI h 94 s = -1 ∨ gI h 94 t = -1
      · refine Pr_t (h1 := h) (v := -11) (fun Q => ?_) (fun Q2 hQ2 => c215 HM hz9 (fun q => (no1 q).elim) (fun _ _ _ _ _ _ _ => hQ2 h R') ?_ ?_ ?_)
        · by_cases g : gI h 94 s = -1
          · simp (disch := first | omega | assumption | exact gtS H hs | exact gt_2 H | (simp only [gT_pA, gT_pI, gT_pR]; first | assumption | exact gtS H hs | exact gt_2 H) | fail) only [s126_0, s126_1, s126_4, s126_7, s126_8, s126_11, s126_14, s126_16, s126_17, s126_18, s126_21, s126_22, s126_23, s126_25, s126_26, s126_29, s126_30, s126_31, s126_33, s126_35, s126_38, s126_39, s126_42, s126_44, s126_47, s126_48, s126_51, s126_53, s126_54, s126_56, s126_59, s126_61, s126_64, s126_67, s126_69, s126_70, s126_72, s126_73, s126_75, s126_78, s126_81, s126_83, s126_85, s126_87, s126_90, s126_93, s126_95, s126_96, s126_98, s126_101, s126_102, s126_104, s126_107, s126_109, s126_114, s126_116, aq_56 H, grS H hs, grS2 H hs, gr_2_12 H, gtS H hs, gt_2 H, am126, isRf_ref, true_and, and_true, aPs_s, aPs_n, b01_0, b01_1, nI_clamp, ix_nI, inb_nI, lt_nI, eq_nI, nn_nI, eq0_nI, pk_mul, nI_add, lt_T, lt_F, if_true, if_false, true_and, and_true, neg1_nI, neg1_lt, neg1_neg, lt_neg1, eqN_F, eq_self,  c129', c129'', Option.isSome_some, Bool.not_false, Bool.not_true, Bool.true_and, Bool.false_and, Bool.and_true, Bool.and_false, Bool.or_true, Bool.or_false, Bool.true_or, Bool.false_or, Bool.true_eq_false, Bool.false_eq_true, if_true, if_false, Option.isSome_some, Option.isSome_none, Option.isNone_some, Option.isNone_none, zB_t, zB_f, nI1_0, nI0_0, tS, tR, z0, y0, g]
          · have g2 : gI h 94 t = -1 := h1.resolve_left g
            simp (disch := first | omega | assumption | exact gtS H hs | exact gt_2 H | (simp only [gT_pA, gT_pI, gT_pR]; first | assumption | exact gtS H hs | exact gt_2 H) | fail) only [s126_0, s126_1, s126_4, s126_7, s126_8, s126_11, s126_14, s126_16, s126_17, s126_18, s126_21, s126_22, s126_23, s126_25, s126_26, s126_29, s126_30, s126_31, s126_33, s126_35, s126_38, s126_39, s126_42, s126_44, s126_47, s126_48, s126_51, s126_53, s126_54, s126_56, s126_59, s126_61, s126_64, s126_67, s126_69, s126_70, s126_72, s126_73, s126_75, s126_78, s126_81, s126_83, s126_85, s126_87, s126_90, s126_93, s126_95, s126_96, s126_98, s126_101, s126_102, s126_104, s126_107, s126_109, s126_114, s126_116, aq_56 H, grS H hs, grS2 H hs, gr_2_12 H, gtS H hs, gt_2 H, am126, isRf_ref, true_and, and_true, aPs_s, aPs_n, b01_0, b01_1, nI_clamp, ix_nI, inb_nI, lt_nI, eq_nI, nn_nI, eq0_nI, pk_mul, nI_add, lt_T, lt_F, if_true, if_false, true_and, and_true, neg1_nI, neg1_lt, neg1_neg, lt_neg1, eqN_F, eq_self,  c129', c129'', Option.isSome_some, Bool.not_false, Bool.not_true, Bool.true_and, Bool.false_and, Bool.and_true, Bool.and_false, Bool.or_true, Bool.or_false, Bool.true_or, Bool.false_or, Bool.true_eq_false, Bool.false_eq_true, if_true, if_false, Option.isSome_some, Option.isSome_none, Option.isNone_some, Option.isNone_none, zB_t, zB_f, nI1_0, nI0_0, tS, tR, z0, y0, g, g2]
        · intro s' t' _ _ q1 q2 g1 g2 _
          rw [so s' q1] at g1
          rw [to t' q2] at g2
          exact (h1.elim g1 g2).elim
        · intro s' t' _ _ q1 q2 g1 g2 _ _
          rw [so s' q1] at g1
          rw [to t' q2] at g2
          exact (h1.elim g1 g2).elim
        · intro s' t' _ _ _ _ _ q1 q2 g1 g2
          intros
          rw [so s' q1] at g1
          rw [to t' q2] at g2
          exact (h1.elim g1 g2).elim
      · have g1 : ¬ gI h 94 s = -1 := fun q => h1 (Or.inl q)
        have g2 : ¬ gI h 94 t = -1 := fun q => h1 (Or.inr q)
        have no2 : ∀ s' t', plc (nI s) 4 = some s' → plc (nI t) 4 = some t' → ¬ (gI h 94 s' = -1 ∨ gI h 94 t' = -1) := fun s' t' q1 q2 => by rw [so s' q1, to t' q2]; exact h1
        by_cases h3 : gI h 94 s = gI h 94 t
        · have c80s : ∀ Q', aM (d + 19) 80 [.ref (57 + 2 * s), .int i, .int n] h Q' = Q' (some (.int (zB (spB (nI z) i n)))) h := fun Q' => c80 H hs (by omega) (z1.trans ez)
          have c80t : ∀ Q', aM (d + 19) 80 [.ref (57 + 2 * t), .int j, .int n] h Q' = Q' (some (.int (zB (spB (nI y) j n)))) h := fun Q' => c80 H ht (by omega) (y1.trans ey)
          have no3 : ∀ s' t', plc (nI s) 4 = some s' → plc (nI t) 4 = some t' → ¬ gI h 94 s' ≠ gI h 94 t' := fun s' t' q1 q2 q => q (by rw [so s' q1, to t' q2]; exact h3)
          by_cases b : spB (nI z) i n = true ∧ spB (nI y) j n = true
          · obtain ⟨b1, b2⟩ := b
            obtain ⟨a, m, rfl, rfl, ham⟩ := spB_of (by omega) b1
            obtain ⟨b, m', rfl, em', hbm⟩ := spB_of (by omega) b2
            have : m' = m := by
              have := (nI_eq (show m < 2 ^ 31 by omega) (show m' < 2 ^ 31 by omega)).mp em'
              omega
            subst this
            have M1 : KM (pA h (58 + 2 * t) (va_cpy (gI h (58 + 2 * s)) (gI h (58 + 2 * t)) a b m')) := HM
            have x1 : ∀ o k, o ≠ 58 + 2 * t → gI (pA h (58 + 2 * t) (va_cpy (gI h (58 + 2 * s)) (gI h (58 + 2 * t)) a b m')) o k = gI h o k := fun o k q => by rw [gI_ne q]
            have x96 : gI (pA h (58 + 2 * t) (va_cpy (gI h (58 + 2 * s)) (gI h (58 + 2 * t)) a b m')) 96 = gI h 96 := by rw [gI_ne (by omega)]
            have F1 : Fr S9 dT h (pA h (58 + 2 * t) (va_cpy (gI h (58 + 2 * s)) (gI h (58 + 2 * t)) a b m')) := Fr_pA (fun k => by unfold S9; omega)
            have F2 : Fr S9 dT (pA h (58 + 2 * t) (va_cpy (gI h (58 + 2 * s)) (gI h (58 + 2 * t)) a b m')) (pA (pA h (58 + 2 * t) (va_cpy (gI h (58 + 2 * s)) (gI h (58 + 2 * t)) a b m')) 96 (cpR (gI h 96) (40 * s + a) (40 * t + b) 0 m')) := Fr_pA (fun k => by unfold S9; omega)
            have fin : Rel h0 (pA (pA h (58 + 2 * t) (va_cpy (gI h (58 + 2 * s)) (gI h (58 + 2 * t)) a b m')) 96 (cpR (gI h 96) (40 * s + a) (40 * t + b) 0 m')) := by
              refine Rel_9 (Fr_trans F1 F2) r1 r2 r3 r4 r5 r6 r7 r8 (fun s' hs' => ?_) ra rb
              obtain ⟨w0, w1, ws, ww, wk⟩ := r9 s' hs'
              rw [gI_ne (by omega), gI_ne (show (94 : Nat) ≠ 96 by omega), gI_ne (show (95 : Nat) ≠ 96 by omega), x1 _ _ (by omega), x1 _ _ (by omega), x1 _ _ (by omega), x1 _ _ (by omega)]
              refine ⟨w0, w1, ws, ww, fun k hk => ?_⟩
              rw [gI_ne (by omega), gI_eq]
              unfold cpR
              by_cases e5 : s' = t
              · subst e5
                rw [gI_eq]
                unfold va_cpy
                by_cases hk2 : b ≤ k ∧ k < b + m'
                · rw [if_pos hk2, if_pos (by omega), zk _ (by omega)]
                  congr 1
                  omega
                · rw [if_neg hk2, if_neg (by omega)]
                  exact wk k hk
              · rw [x1 _ _ (by omega), if_neg (by omega)]
                exact wk k hk
            refine Pr_t (h1 := pA h (58 + 2 * t) (va_cpy (gI h (58 + 2 * s)) (gI h (58 + 2 * t)) a b m')) (v := nI m') (fun Q => ?_) (fun Q2 hQ2 => c215 M1 (fun s hs => by rw [x1 _ _ (by omega)]; exact hz9 s hs) (fun q => (no1 q).elim) ?_ ?_ ?_ ?_)
            · simp (disch := first | omega | assumption | exact gtS H hs | exact gt_2 H | (simp only [gT_pA, gT_pI, gT_pR]; first | assumption | exact gtS H hs | exact gt_2 H) | fail) only [s126_0, s126_1, s126_4, s126_7, s126_8, s126_11, s126_14, s126_16, s126_17, s126_18, s126_21, s126_22, s126_23, s126_25, s126_26, s126_29, s126_30, s126_31, s126_33, s126_35, s126_38, s126_39, s126_42, s126_44, s126_47, s126_48, s126_51, s126_53, s126_54, s126_56, s126_59, s126_61, s126_64, s126_67, s126_69, s126_70, s126_72, s126_73, s126_75, s126_78, s126_81, s126_83, s126_85, s126_87, s126_90, s126_93, s126_95, s126_96, s126_98, s126_101, s126_102, s126_104, s126_107, s126_109, s126_114, s126_116, aq_56 H, grS H hs, grS2 H hs, gr_2_12 H, gtS H hs, gt_2 H, am126, isRf_ref, true_and, and_true, aPs_s, aPs_n, b01_0, b01_1, nI_clamp, ix_nI, inb_nI, lt_nI, eq_nI, nn_nI, eq0_nI, pk_mul, nI_add, lt_T, lt_F, if_true, if_false, true_and, and_true, neg1_nI, neg1_lt, neg1_neg, lt_neg1, eqN_F, eq_self,  c129', c129'', Option.isSome_some, Bool.not_false, Bool.not_true, Bool.true_and, Bool.false_and, Bool.and_true, Bool.and_false, Bool.or_true, Bool.or_false, Bool.true_or, Bool.false_or, Bool.true_eq_false, Bool.false_eq_true, if_true, if_false, Option.isSome_some, Option.isSome_none, Option.isNone_some, Option.isNone_none, zB_t, zB_f, nI1_0, nI0_0, tS, tR, tN, z0, y0, g1, g2, h3, c80s, c80t, b1, b2]
              rw [s126_111 (d := d + 19) (gtN H hs) (gtN H ht) ⟨by rw [nn_nI (by omega)]; exact not_false, by rw [nn_nI (by omega)]; exact not_false, by rw [nn_nI (by omega)]; exact not_false, by rw [nI_clamp (by omega), nI_clamp (by omega)]; omega, by rw [nI_clamp (by omega), nI_clamp (by omega)]; omega⟩, nI_clamp (by omega), nI_clamp (by omega), nI_clamp (by omega)]
              simp (disch := first | omega | assumption | exact gtS H hs | exact gt_2 H | (simp only [gT_pA, gT_pI, gT_pR]; first | assumption | exact gtS H hs | exact gt_2 H) | fail) only [s126_0, s126_1, s126_4, s126_7, s126_8, s126_11, s126_14, s126_16, s126_17, s126_18, s126_21, s126_22, s126_23, s126_25, s126_26, s126_29, s126_30, s126_31, s126_33, s126_35, s126_38, s126_39, s126_42, s126_44, s126_47, s126_48, s126_51, s126_53, s126_54, s126_56, s126_59, s126_61, s126_64, s126_67, s126_69, s126_70, s126_72, s126_73, s126_75, s126_78, s126_81, s126_83, s126_85, s126_87, s126_90, s126_93, s126_95, s126_96, s126_98, s126_101, s126_102, s126_104, s126_107, s126_109, s126_114, s126_116, aq_56 H, grS H hs, grS2 H hs, gr_2_12 H, gtS H hs, gt_2 H, am126, isRf_ref, true_and, and_true, aPs_s, aPs_n, b01_0, b01_1, nI_clamp, ix_nI, inb_nI, lt_nI, eq_nI, nn_nI, eq0_nI, pk_mul, nI_add, lt_T, lt_F, if_true, if_false, true_and, and_true, neg1_nI, neg1_lt, neg1_neg, lt_neg1, eqN_F, eq_self, ]
            · intro s' t' _ _ q1 q2 q
              rw [x1 _ _ (by omega), x1 _ _ (by omega)] at q
              exact (no2 s' t' q1 q2 q).elim
            · intro s' t' _ _ q1 q2 _ _ q
              rw [x1 _ _ (by omega), x1 _ _ (by omega)] at q
              exact (no3 s' t' q1 q2 q).elim
            · intro s' t' _ _ q1 q2 _ _ _ q
              rw [so s' q1, to t' q2, x1 _ _ (by omega), x1 _ _ (by omega), ez, ey, b1, b2] at q
              rcases q with q | q <;> cases q
            · intro s' t' a' b' m'' _ _ q1 q2 _ _ _ _ _ ea eb em ha' hb'
              have := so s' q1
              subst this
              have := to t' q2
              subst this
              have : a' = a := by
                have := (nI_eq (show a < 2 ^ 31 by omega) (show a' < 2 ^ 31 by omega)).mp ea
                omega
              subst this
              have : b' = b := by
                have := (nI_eq (show b < 2 ^ 31 by omega) (show b' < 2 ^ 31 by omega)).mp eb
                omega
              subst this
              have : m'' = m' := by
                have := (nI_eq (show m' < 2 ^ 31 by omega) (show m'' < 2 ^ 31 by omega)).mp em
                omega
              subst this
              rw [x96]
              exact hQ2 _ fin
          · have b' : spB (nI z) i n = false ∨ spB (nI y) j n = false := by
              rcases Bool.eq_false_or_eq_true (spB (nI z) i n) with q | q
              · rcases Bool.eq_false_or_eq_true (spB (nI y) j n) with q2 | q2
                · exact (b ⟨q, q2⟩).elim
                · exact Or.inr q2
              · exact Or.inl q
            refine Pr_t (h1 := h) (v := -12) (fun Q => ?_) (fun Q2 hQ2 => c215 HM hz9 (fun q => (no1 q).elim) (fun s' t' _ _ q1 q2 q => (no2 s' t' q1 q2 q).elim) (fun s' t' _ _ q1 q2 _ _ q => (no3 s' t' q1 q2 q).elim) (fun _ _ _ _ _ _ _ _ _ _ => hQ2 h R') ?_)
            · rcases Bool.eq_false_or_eq_true (spB (nI z) i n) with q | q
              · have q2 := b'.resolve_left (by rw [q]; exact fun q => by cases q)
                simp (disch := first | omega | assumption | exact gtS H hs | exact gt_2 H | (simp only [gT_pA, gT_pI, gT_pR]; first | assumption | exact gtS H hs | exact gt_2 H) | fail) only [s126_0, s126_1, s126_4, s126_7, s126_8, s126_11, s126_14, s126_16, s126_17, s126_18, s126_21, s126_22, s126_23, s126_25, s126_26, s126_29, s126_30, s126_31, s126_33, s126_35, s126_38, s126_39, s126_42, s126_44, s126_47, s126_48, s126_51, s126_53, s126_54, s126_56, s126_59, s126_61, s126_64, s126_67, s126_69, s126_70, s126_72, s126_73, s126_75, s126_78, s126_81, s126_83, s126_85, s126_87, s126_90, s126_93, s126_95, s126_96, s126_98, s126_101, s126_102, s126_104, s126_107, s126_109, s126_114, s126_116, aq_56 H, grS H hs, grS2 H hs, gr_2_12 H, gtS H hs, gt_2 H, am126, isRf_ref, true_and, and_true, aPs_s, aPs_n, b01_0, b01_1, nI_clamp, ix_nI, inb_nI, lt_nI, eq_nI, nn_nI, eq0_nI, pk_mul, nI_add, lt_T, lt_F, if_true, if_false, true_and, and_true, neg1_nI, neg1_lt, neg1_neg, lt_neg1, eqN_F, eq_self,  c129', c129'', Option.isSome_some, Bool.not_false, Bool.not_true, Bool.true_and, Bool.false_and, Bool.and_true, Bool.and_false, Bool.or_true, Bool.or_false, Bool.true_or, Bool.false_or, Bool.true_eq_false, Bool.false_eq_true, if_true, if_false, Option.isSome_some, Option.isSome_none, Option.isNone_some, Option.isNone_none, zB_t, zB_f, nI1_0, nI0_0, tS, tR, tN, z0, y0, g1, g2, h3, c80s, c80t, q, q2]
              · simp (disch := first | omega | assumption | exact gtS H hs | exact gt_2 H | (simp only [gT_pA, gT_pI, gT_pR]; first | assumption | exact gtS H hs | exact gt_2 H) | fail) only [s126_0, s126_1, s126_4, s126_7, s126_8, s126_11, s126_14, s126_16, s126_17, s126_18, s126_21, s126_22, s126_23, s126_25, s126_26, s126_29, s126_30, s126_31, s126_33, s126_35, s126_38, s126_39, s126_42, s126_44, s126_47, s126_48, s126_51, s126_53, s126_54, s126_56, s126_59, s126_61, s126_64, s126_67, s126_69, s126_70, s126_72, s126_73, s126_75, s126_78, s126_81, s126_83, s126_85, s126_87, s126_90, s126_93, s126_95, s126_96, s126_98, s126_101, s126_102, s126_104, s126_107, s126_109, s126_114, s126_116, aq_56 H, grS H hs, grS2 H hs, gr_2_12 H, gtS H hs, gt_2 H, am126, isRf_ref, true_and, and_true, aPs_s, aPs_n, b01_0, b01_1, nI_clamp, ix_nI, inb_nI, lt_nI, eq_nI, nn_nI, eq0_nI, pk_mul, nI_add, lt_T, lt_F, if_true, if_false, true_and, and_true, neg1_nI, neg1_lt, neg1_neg, lt_neg1, eqN_F, eq_self,  c129', c129'', Option.isSome_some, Bool.not_false, Bool.not_true, Bool.true_and, Bool.false_and, Bool.and_true, Bool.and_false, Bool.or_true, Bool.or_false, Bool.true_or, Bool.false_or, Bool.true_eq_false, Bool.false_eq_true, if_true, if_false, Option.isSome_some, Option.isSome_none, Option.isNone_some, Option.isNone_none, zB_t, zB_f, nI1_0, nI0_0, tS, tR, tN, z0, y0, g1, g2, h3, c80s, q]
            · intro s' t' a' b'' m'' _ _ q1 q2 _ _ _ w1 w2
              intros
              rw [so s' q1, ez] at w1
              rw [to t' q2, ey] at w2
              exact (b ⟨w1, w2⟩).elim
        · refine Pr_t (h1 := h) (v := -13) (fun Q => ?_) (fun Q2 hQ2 => c215 HM hz9 (fun q => (no1 q).elim) (fun s' t' _ _ q1 q2 q => (no2 s' t' q1 q2 q).elim) (fun _ _ _ _ _ _ _ _ _ => hQ2 h R') ?_ ?_)
          · simp (disch := first | omega | assumption | exact gtS H hs | exact gt_2 H | (simp only [gT_pA, gT_pI, gT_pR]; first | assumption | exact gtS H hs | exact gt_2 H) | fail) only [s126_0, s126_1, s126_4, s126_7, s126_8, s126_11, s126_14, s126_16, s126_17, s126_18, s126_21, s126_22, s126_23, s126_25, s126_26, s126_29, s126_30, s126_31, s126_33, s126_35, s126_38, s126_39, s126_42, s126_44, s126_47, s126_48, s126_51, s126_53, s126_54, s126_56, s126_59, s126_61, s126_64, s126_67, s126_69, s126_70, s126_72, s126_73, s126_75, s126_78, s126_81, s126_83, s126_85, s126_87, s126_90, s126_93, s126_95, s126_96, s126_98, s126_101, s126_102, s126_104, s126_107, s126_109, s126_114, s126_116, aq_56 H, grS H hs, grS2 H hs, gr_2_12 H, gtS H hs, gt_2 H, am126, isRf_ref, true_and, and_true, aPs_s, aPs_n, b01_0, b01_1, nI_clamp, ix_nI, inb_nI, lt_nI, eq_nI, nn_nI, eq0_nI, pk_mul, nI_add, lt_T, lt_F, if_true, if_false, true_and, and_true, neg1_nI, neg1_lt, neg1_neg, lt_neg1, eqN_F, eq_self,  c129', c129'', Option.isSome_some, Bool.not_false, Bool.not_true, Bool.true_and, Bool.false_and, Bool.and_true, Bool.and_false, Bool.or_true, Bool.or_false, Bool.true_or, Bool.false_or, Bool.true_eq_false, Bool.false_eq_true, if_true, if_false, Option.isSome_some, Option.isSome_none, Option.isNone_some, Option.isNone_none, zB_t, zB_f, nI1_0, nI0_0, tS, tR, tN, z0, y0, g1, g2, h3]
          · intro s' t' _ _ q1 q2 _ _ q _
            rw [so s' q1, to t' q2] at q
            exact (h3 q).elim
          · intro s' t' _ _ _ _ _ q1 q2 _ _ q
            intros
            rw [so s' q1, to t' q2] at q
            exact (h3 q).elim
    · rw [e'] at c129''
      refine Pr_t (h1 := h) (v := -2) (fun Q => ?_) (fun Q2 hQ2 => c215 HM hz9 (fun _ => hQ2 h R') ?_ ?_ ?_ ?_)
      · simp (disch := first | omega | assumption | exact gtS H hs | exact gt_2 H | (simp only [gT_pA, gT_pI, gT_pR]; first | assumption | exact gtS H hs | exact gt_2 H) | fail) only [s126_0, s126_1, s126_4, s126_7, s126_8, s126_11, s126_14, s126_16, s126_17, s126_18, s126_21, s126_22, s126_23, s126_25, s126_26, s126_29, s126_30, s126_31, s126_33, s126_35, s126_38, s126_39, s126_42, s126_44, s126_47, s126_48, s126_51, s126_53, s126_54, s126_56, s126_59, s126_61, s126_64, s126_67, s126_69, s126_70, s126_72, s126_73, s126_75, s126_78, s126_81, s126_83, s126_85, s126_87, s126_90, s126_93, s126_95, s126_96, s126_98, s126_101, s126_102, s126_104, s126_107, s126_109, s126_114, s126_116, aq_56 H, grS H hs, grS2 H hs, gr_2_12 H, gtS H hs, gt_2 H, am126, isRf_ref, true_and, and_true, aPs_s, aPs_n, b01_0, b01_1, nI_clamp, ix_nI, inb_nI, lt_nI, eq_nI, nn_nI, eq0_nI, pk_mul, nI_add, lt_T, lt_F, if_true, if_false, true_and, and_true, neg1_nI, neg1_lt, neg1_neg, lt_neg1, eqN_F, eq_self,  c129', c129'', Option.isSome_some, Option.isSome_none, Bool.not_false, Bool.not_true, Bool.true_and, Bool.false_and, Bool.and_true, Bool.and_false, Bool.or_true, Bool.or_false, Bool.true_or, Bool.false_or, Bool.true_eq_false, Bool.false_eq_true, if_true, if_false, Option.isSome_some, Option.isSome_none, Option.isNone_some, Option.isNone_none, zB_t, zB_f, nI1_0, nI0_0]
      · intro s' t' _ _ _ q2
        rw [e'] at q2
        cases q2
      · intro s' t' _ _ _ q2
        rw [e'] at q2
        cases q2
      · intro s' t' _ _ _ q2
        rw [e'] at q2
        cases q2
      · intro s' t' _ _ _ _ _ _ q2
        rw [e'] at q2
        cases q2
  · rw [e] at c129'
    have hs : 0 < 4 := by omega
    refine Pr_t (h1 := h) (v := -2) (fun Q => ?_) (fun Q2 hQ2 => c215 HM hz9 (fun _ => hQ2 h R') ?_ ?_ ?_ ?_)
    · simp (disch := first | omega | assumption | exact gtS H hs | exact gt_2 H | (simp only [gT_pA, gT_pI, gT_pR]; first | assumption | exact gtS H hs | exact gt_2 H) | fail) only [s126_0, s126_1, s126_4, s126_7, s126_8, s126_11, s126_14, s126_16, s126_17, s126_18, s126_21, s126_22, s126_23, s126_25, s126_26, s126_29, s126_30, s126_31, s126_33, s126_35, s126_38, s126_39, s126_42, s126_44, s126_47, s126_48, s126_51, s126_53, s126_54, s126_56, s126_59, s126_61, s126_64, s126_67, s126_69, s126_70, s126_72, s126_73, s126_75, s126_78, s126_81, s126_83, s126_85, s126_87, s126_90, s126_93, s126_95, s126_96, s126_98, s126_101, s126_102, s126_104, s126_107, s126_109, s126_114, s126_116, aq_56 H, grS H hs, grS2 H hs, gr_2_12 H, gtS H hs, gt_2 H, am126, isRf_ref, true_and, and_true, aPs_s, aPs_n, b01_0, b01_1, nI_clamp, ix_nI, inb_nI, lt_nI, eq_nI, nn_nI, eq0_nI, pk_mul, nI_add, lt_T, lt_F, if_true, if_false, true_and, and_true, neg1_nI, neg1_lt, neg1_neg, lt_neg1, eqN_F, eq_self,  c129', Option.isSome_none, Bool.not_false, Bool.not_true, Bool.true_and, Bool.false_and, Bool.and_true, Bool.and_false, Bool.or_true, Bool.or_false, Bool.true_or, Bool.false_or, Bool.true_eq_false, Bool.false_eq_true, if_true, if_false, Option.isSome_some, Option.isSome_none, Option.isNone_some, Option.isNone_none, zB_t, zB_f, nI1_0, nI0_0]
    · intro s' t' _ _ q1
      rw [e] at q1
      cases q1
    · intro s' t' _ _ q1
      rw [e] at q1
      cases q1
    · intro s' t' _ _ q1
      rw [e] at q1
      cases q1
    · intro s' t' _ _ _ _ _ q1
      rw [e] at q1
      cases q1
end R7
