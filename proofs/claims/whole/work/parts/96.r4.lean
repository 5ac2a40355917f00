/-! BOTH SIDES, call by call: LEAST PEAK, HEIGHT, the PLAN, SENT OUT, PAIR, the RULE -/
section R4
variable {d : Nat} {hs h : abH} {Q : Option Value → abH → Prop}
theorem lp_1 {P : Nat → Nat → Int32} {m : Nat} : gI (lpX h P m) 39 0 = nI 1 := by unfold lpX; rw [pI_def, gI_eq, upd_eq]
theorem lp_2 {P : Nat → Nat → Int32} {m : Nat} : gI (lpX h P m) 39 1 = nI (hcN P (2 ^ nS P)) := by
  unfold lpX
  rw [pI_def, gI_eq, upd_ne (by decide)]
  exact obX_1 (h := h) (P := P) (D := 0)
theorem lp_3 {P : Nat → Nat → Int32} {m : Nat} (hm : mT P 0 = some m) : gI (lpX h P m) 40 0 = nI m := by
  have : gI (lpX h P m) 40 0 = gI (obX P h 0 (hcN P (2 ^ nS P))) 40 0 := rfl
  rw [this, obX_40]
  unfold obF
  rw [if_pos ⟨Nat.le_refl _, Nat.two_pow_pos _⟩, hm]
  rfl
theorem lp_4 {P : Nat → Nat → Int32} {m k : Nat} (hk : k < nS P) : gI (lpX h P m) 41 k = nI (tld P m k) := by
  have : gI (lpX h P m) 41 k = pre (fun k => nI (tld P m k)) (nS P) (gI (obX P h 0 (hcN P (2 ^ nS P))) 41) k := rfl
  rw [this, pre_in hk]
theorem Fr_lp {P : Nat → Nat → Int32} {m : Nat} {T : Nat → Nat → Prop} : Fr (fun o _ => 39 ≤ o ∧ o ≤ 41) T h (lpX h P m) := by
  refine ⟨rfl, fun _ _ _ => rfl, fun o k q => ?_⟩
  have n1 : o ≠ 39 := by omega
  have n2 : o ≠ 40 := by omega
  have n3 : o ≠ 41 := by omega
  unfold lpX
  rw [pI_def, gI_ne n1]
  show gI (frX (obX P h 0 (hcN P (2 ^ nS P))) P m (nS P)) o k = gI h o k
  unfold frX
  rw [gI_ne n3, obX_o n1 n2]
set_option maxHeartbeats 8000000 in
theorem p_least (R : Rel hs h) {i : Int32} : Pr d hs h 105 179 [.ref 2, .int i] [.ref 65, .int i] := by
  have R' := R
  obtain ⟨p, P, tl, r1, r2, r3, r4, r5, r6, r7, r8, r9, ra, rb⟩ := R
  have R0 := r1
  obtain ⟨-, -, H, HM, AB0⟩ := R0
  have R0 := r2
  obtain ⟨hp, r21, r22, hP, W, Tv, T, h29, hw, TMh⟩ := R0
  have V := W.1
  have s10 := V.s.1
  have C := TMh.1.1
  have f3 := TMh.2.2.1
  have t2 := TMh.2.2.2
  have e6 := C.s
  have hin : ∀ h1, KM h1 → pv h1 = P → Rel hs h1 → ∀ Q2 : Option Value → abH → Prop, (∀ h2, Rel hs h2 → Q2 (some (.int (if inLp P i = true then aLp P i else -5))) h2) → aM (d + 20) 179 [.ref 65, .int i] h1 Q2 := fun h1 k1 k2 k3 Q2 hQ2 => t179 k1 k2 V (fun h' F => hQ2 h' (Rel_Fm F k3))
  have eI : inLp P i = decide (¬ i < -2 ∧ ¬ nI (nS P) - nI 1 < i) := rfl
  -- what stands outside
  by_cases hn1 : i < -2
  · have e : inLp P i = false := by rw [eI]; exact decide_eq_false (fun q => q.1 hn1)
    refine Pr_t (h1 := h) (v := if inLp P i = true then aLp P i else -5) (fun Q => ?_) (fun Q2 hQ2 => hin h HM hP R' Q2 hQ2)
    simp (disch := first | omega | assumption | exact gtP H hp | exact gt_2 H | exact gt_29 H | exact gt_39 H | (simp only [gT_pA, gT_pI, gT_pR]; first | assumption | exact gtP H hp | exact gt_2 H | exact gt_29 H | exact gt_39 H) | fail) only [s105_0, s105_1, s105_3, s105_6, s105_7, s105_8, s105_11, s105_14, s105_17, s105_19, s105_20, s105_21, s105_24, s105_27, s105_30, s105_32, s105_33, s105_34, s105_37, s105_38, s105_41, s105_44, s105_47, s105_48, s105_76, s105_77, s105_80, s105_83, s105_84, s105_85, s105_88, s105_91, s105_92, s105_93, s105_94, s105_95, s105_98, s105_101, s105_102, s105_103, ai_40 H, ai_41 H, gr_29_0 H, gr_2_3 H, gr_2_4 H, gr_39_2 H, gr_39_3 H, gtP H hp, gt_2 H, gt_29 H, gt_39 H, am105, isRf_ref, true_and, and_true, aPs_s, aPs_n, b01_0, b01_1, nI_clamp, ix_nI, inb_nI, lt_nI, eq_nI, nn_nI, eq0_nI, pk_mul, nI_add, lt_T, lt_F, if_true, if_false, true_and, and_true, neg1_nI, neg1_lt, neg1_neg, lt_neg1, eqN_F, eq_self,  hn1, e, Bool.not_false, Bool.not_true, Bool.true_and, Bool.false_and, Bool.and_true, Bool.and_false, Bool.or_true, Bool.or_false, Bool.true_or, Bool.false_or, Bool.true_eq_false, Bool.false_eq_true, if_true, if_false, Option.isSome_some, Option.isSome_none, Option.isNone_some, Option.isNone_none, zB_t, zB_f, nI1_0, nI0_0]
  · have ilt : (nI (nS P) - nI 1 < i) = ¬ i < nI (nS P) := by
      have e1 : (nI 1).toInt = 1 := by decide
      have e2 := nI_toInt (n := nS P) (by omega)
      apply propext
      rw [Int32.lt_iff_toInt_lt, Int32.lt_iff_toInt_lt, sub_nI (by omega) (by omega), e2]
      omega
    by_cases h2 : i < nI (nS P)
    · have e : inLp P i = true := by rw [eI]; exact decide_eq_true ⟨hn1, by rw [ilt]; exact fun q => q h2⟩
      cases ho : oRD P tl with
      | none =>
        have hm := oRD_mT Tv
        rw [ho] at hm f3
        have ea : aLp P i = -3 := by
          unfold aLp
          cases hq : mT P 0 with
          | none => rfl
          | some m => rw [hq] at hm; cases hm
        refine Pr_t (h1 := h) (v := if inLp P i = true then aLp P i else -5) (fun Q => ?_) (fun Q2 hQ2 => hin h HM hP R' Q2 hQ2)
        simp (disch := first | omega | assumption | exact gtP H hp | exact gt_2 H | exact gt_29 H | exact gt_39 H | (simp only [gT_pA, gT_pI, gT_pR]; first | assumption | exact gtP H hp | exact gt_2 H | exact gt_29 H | exact gt_39 H) | fail) only [s105_0, s105_1, s105_3, s105_6, s105_7, s105_8, s105_11, s105_14, s105_17, s105_19, s105_20, s105_21, s105_24, s105_27, s105_30, s105_32, s105_33, s105_34, s105_37, s105_38, s105_41, s105_44, s105_47, s105_48, s105_76, s105_77, s105_80, s105_83, s105_84, s105_85, s105_88, s105_91, s105_92, s105_93, s105_94, s105_95, s105_98, s105_101, s105_102, s105_103, ai_40 H, ai_41 H, gr_29_0 H, gr_2_3 H, gr_2_4 H, gr_39_2 H, gr_39_3 H, gtP H hp, gt_2 H, gt_29 H, gt_39 H, am105, isRf_ref, true_and, and_true, aPs_s, aPs_n, b01_0, b01_1, nI_clamp, ix_nI, inb_nI, lt_nI, eq_nI, nn_nI, eq0_nI, pk_mul, nI_add, lt_T, lt_F, if_true, if_false, true_and, and_true, neg1_nI, neg1_lt, neg1_neg, lt_neg1, eqN_F, eq_self,  hn1, e6, r21, h2, e, f3, Option.isSome_none, Bool.not_false, Bool.not_true, Bool.true_and, Bool.false_and, Bool.and_true, Bool.and_false, Bool.or_true, Bool.or_false, Bool.true_or, Bool.false_or, Bool.true_eq_false, Bool.false_eq_true, if_true, if_false, Option.isSome_some, Option.isSome_none, Option.isNone_some, Option.isNone_none, zB_t, zB_f, nI1_0, nI0_0, ea]
      | some o =>
        obtain ⟨O, L⟩ := t2 o ho
        obtain ⟨m, hm⟩ := ord_mT O
        have f3 : gI h 29 3 = nI 1 := by rw [f3, ho]; rfl
        -- what is found
        have fin : ∀ h1, (gI h1 39 1 = nI (hcN P (2 ^ nS P)) ∧ gI h1 40 0 = nI m ∧ ∀ k, k < nS P → gI h1 41 k = nI (tld P m k)) → KC h1 → KM h1 → pv h1 = P → Rel hs h1 → (∀ Q, aM (d + 19) 32 [.ref 39, .ref 30] h Q = Q none h1) → Pr d hs h 105 179 [.ref 2, .int i] [.ref 65, .int i] := by
          intro h1 g g2 g3 g4 g5 c32'
          obtain ⟨w1, w2, w3⟩ := g
          have t2a := gt_2 g2
          have t39 := gt_39 g2
          have q24 := gr_2_4 g2
          have q40 := ai_40 g2
          have q41 := ai_41 g2
          have k392 := gr_39_2 g2
          have k393 := gr_39_3 g2
          refine Pr_t (h1 := h1) (v := if inLp P i = true then aLp P i else -5) (fun Q => ?_) (fun Q2 hQ2 => hin h1 g3 g4 g5 Q2 hQ2)
          unfold aLp
          rw [hm]
          rcases plc_cases i (nS P) (by omega) with ⟨j, hj, rfl, ej⟩ | ⟨ej, x1, x2⟩ | ⟨ej, x1, x2, x3, x4⟩
          · have n1 : ¬ nI j = -1 := by
              intro q
              have := nn_nI (a := j) (by omega)
              rw [q] at this
              exact (this ▸ iflt_m1 ▸ trivial : False)
            have n2 : ¬ nI j = -2 := by
              intro q
              have := nn_nI (a := j) (by omega)
              rw [q] at this
              have m2 : ((-2 : Int32) < 0) = True := by decide
              exact (this ▸ m2 ▸ trivial : False)
            have ew := w3 j hj
            simp (disch := first | omega | assumption | exact gtP H hp | exact gt_2 H | exact gt_29 H | exact gt_39 H | (simp only [gT_pA, gT_pI, gT_pR]; first | assumption | exact gtP H hp | exact gt_2 H | exact gt_29 H | exact gt_39 H) | fail) only [s105_0, s105_1, s105_3, s105_6, s105_7, s105_8, s105_11, s105_14, s105_17, s105_19, s105_20, s105_21, s105_24, s105_27, s105_30, s105_32, s105_33, s105_34, s105_37, s105_38, s105_41, s105_44, s105_47, s105_48, s105_76, s105_77, s105_80, s105_83, s105_84, s105_85, s105_88, s105_91, s105_92, s105_93, s105_94, s105_95, s105_98, s105_101, s105_102, s105_103, ai_40 H, ai_41 H, gr_29_0 H, gr_2_3 H, gr_2_4 H, gr_39_2 H, gr_39_3 H, gtP H hp, gt_2 H, gt_29 H, gt_39 H, am105, isRf_ref, true_and, and_true, aPs_s, aPs_n, b01_0, b01_1, nI_clamp, ix_nI, inb_nI, lt_nI, eq_nI, nn_nI, eq0_nI, pk_mul, nI_add, lt_T, lt_F, if_true, if_false, true_and, and_true, neg1_nI, neg1_lt, neg1_neg, lt_neg1, eqN_F, eq_self,  hn1, e6, r21, h2, e, f3, nI1_0, Bool.not_false, Bool.not_true, Bool.true_and, Bool.false_and, Bool.and_true, Bool.and_false, Bool.or_true, Bool.or_false, Bool.true_or, Bool.false_or, Bool.true_eq_false, Bool.false_eq_true, if_true, if_false, Option.isSome_some, Option.isSome_none, Option.isNone_some, Option.isNone_none, zB_t, zB_f, nI1_0, nI0_0, c32', n1, n2, ej, t2a, t39, q24, q40, q41, k392, k393, ew, show j < 10 by omega]
          · have x1 : i < 0 := by rw [x1]; trivial
            have i2 : i = -1 ∨ i = -2 := by
              have m0 : (0 : Int32).toInt = 0 := by decide
              have m1 : (-1 : Int32).toInt = -1 := by decide
              have m2 : (-2 : Int32).toInt = -2 := by decide
              rw [Int32.lt_iff_toInt_lt, m0] at x1
              rw [Int32.lt_iff_toInt_lt, m2] at hn1
              rcases (show i.toInt = -1 ∨ i.toInt = -2 by omega) with q | q
              · exact Or.inl (Int32.toInt_inj.mp (q.trans m1.symm))
              · exact Or.inr (Int32.toInt_inj.mp (q.trans m2.symm))
            rcases i2 with rfl | rfl
            · have n2 : ¬ (-1 : Int32) = -2 := by decide
              simp (disch := first | omega | assumption | exact gtP H hp | exact gt_2 H | exact gt_29 H | exact gt_39 H | (simp only [gT_pA, gT_pI, gT_pR]; first | assumption | exact gtP H hp | exact gt_2 H | exact gt_29 H | exact gt_39 H) | fail) only [s105_0, s105_1, s105_3, s105_6, s105_7, s105_8, s105_11, s105_14, s105_17, s105_19, s105_20, s105_21, s105_24, s105_27, s105_30, s105_32, s105_33, s105_34, s105_37, s105_38, s105_41, s105_44, s105_47, s105_48, s105_76, s105_77, s105_80, s105_83, s105_84, s105_85, s105_88, s105_91, s105_92, s105_93, s105_94, s105_95, s105_98, s105_101, s105_102, s105_103, ai_40 H, ai_41 H, gr_29_0 H, gr_2_3 H, gr_2_4 H, gr_39_2 H, gr_39_3 H, gtP H hp, gt_2 H, gt_29 H, gt_39 H, am105, isRf_ref, true_and, and_true, aPs_s, aPs_n, b01_0, b01_1, nI_clamp, ix_nI, inb_nI, lt_nI, eq_nI, nn_nI, eq0_nI, pk_mul, nI_add, lt_T, lt_F, if_true, if_false, true_and, and_true, neg1_nI, neg1_lt, neg1_neg, lt_neg1, eqN_F, eq_self,  hn1, e6, r21, h2, e, f3, nI1_0, Bool.not_false, Bool.not_true, Bool.true_and, Bool.false_and, Bool.and_true, Bool.and_false, Bool.or_true, Bool.or_false, Bool.true_or, Bool.false_or, Bool.true_eq_false, Bool.false_eq_true, if_true, if_false, Option.isSome_some, Option.isSome_none, Option.isNone_some, Option.isNone_none, zB_t, zB_f, nI1_0, nI0_0, c32', n2, ej, t2a, t39, q24, q40, q41, k392, k393, w2]
            · have n1 : ¬ (-2 : Int32) = -1 := by decide
              simp (disch := first | omega | assumption | exact gtP H hp | exact gt_2 H | exact gt_29 H | exact gt_39 H | (simp only [gT_pA, gT_pI, gT_pR]; first | assumption | exact gtP H hp | exact gt_2 H | exact gt_29 H | exact gt_39 H) | fail) only [s105_0, s105_1, s105_3, s105_6, s105_7, s105_8, s105_11, s105_14, s105_17, s105_19, s105_20, s105_21, s105_24, s105_27, s105_30, s105_32, s105_33, s105_34, s105_37, s105_38, s105_41, s105_44, s105_47, s105_48, s105_76, s105_77, s105_80, s105_83, s105_84, s105_85, s105_88, s105_91, s105_92, s105_93, s105_94, s105_95, s105_98, s105_101, s105_102, s105_103, ai_40 H, ai_41 H, gr_29_0 H, gr_2_3 H, gr_2_4 H, gr_39_2 H, gr_39_3 H, gtP H hp, gt_2 H, gt_29 H, gt_39 H, am105, isRf_ref, true_and, and_true, aPs_s, aPs_n, b01_0, b01_1, nI_clamp, ix_nI, inb_nI, lt_nI, eq_nI, nn_nI, eq0_nI, pk_mul, nI_add, lt_T, lt_F, if_true, if_false, true_and, and_true, neg1_nI, neg1_lt, neg1_neg, lt_neg1, eqN_F, eq_self,  hn1, e6, r21, h2, e, f3, nI1_0, Bool.not_false, Bool.not_true, Bool.true_and, Bool.false_and, Bool.and_true, Bool.and_false, Bool.or_true, Bool.or_false, Bool.true_or, Bool.false_or, Bool.true_eq_false, Bool.false_eq_true, if_true, if_false, Option.isSome_some, Option.isSome_none, Option.isNone_some, Option.isNone_none, zB_t, zB_f, nI1_0, nI0_0, c32', n1, ej, t2a, t39, q24, q40, q41, k392, k393, w1]
          · rw [x3] at h2
            exact h2.elim
        obtain ⟨b, g⟩ := r3
        by_cases h0 : gI h 39 0 = 0
        · have HX : KC (lpX h P m) := H
          have F : Fr (fun o _ => 39 ≤ o ∧ o ≤ 41) dT h (lpX h P m) := Fr_lp
          refine fin (lpX h P m) ⟨lp_2, lp_3 hm, fun k hk => lp_4 hk⟩ HX HM ?_ ?_ (fun Q => c32 H hp W TMh.2.1 hm h0)
          · exact (pv_cg (fun o k q => F.2.2 o k (by omega)) (F.2.2 65 4 (by omega))).trans hP
          · exact ⟨p, P, tl, R1_fr (Fr_pT F) (by intro o k; simp only [D1]; omega) r1, R2_fr F (by intro o k; simp only [D2]; omega) r2, ⟨by rw [lp_1]; exact Or.inr rfl, fun _ => ⟨lp_2, m, hm, lp_3 hm, fun k hk => lp_4 hk⟩⟩, R4_fr F (by intro o k; simp only [D4]; omega) r4, R5_fr F (by intro o k; simp only [D5]; omega) r5, R6_fr F (by intro o k; simp only [D6]; omega) r6, R7_fr F (by intro o k; simp only [D7]; omega) r7, R8_fr F (by intro o k; simp only [D8]; omega) r8, R9_fr F (by intro o k; simp only [D9]; omega) r9, RA_fr F (by intro o k; simp only [DA]; omega) ra, RB_fr F (by intro o k; simp only [DB]; omega) rb⟩
        · obtain ⟨g1, m', hm', g3, g4⟩ := g h0
          rw [hm] at hm'
          cases hm'
          refine fin h ⟨g1, g3, g4⟩ H HM hP R' (fun Q => ?_)
          simp (disch := first | omega | assumption | exact gt_30 H | exact gt_39 H | (simp only [gT_pA, gT_pI, gT_pR]; first | assumption | exact gt_30 H | exact gt_39 H) | fail) only [s32_0, s32_1, s32_4, s32_7, s32_9, s32_10, s32_13, s32_16, s32_17, s32_18, s32_19, s32_20, s32_21, s32_22, s32_25, s32_26, s32_28, s32_31, s32_32, s32_35, s32_36, s32_37, s32_38, s32_41, s32_42, s32_45, s32_46, s32_47, s32_48, s32_51, s32_52, s32_53, s32_56, s32_57, s32_58, s32_60, s32_63, s32_64, s32_65, s32_68, s32_69, s32_70, s32_73, s32_76, s32_80, s32_81, s32_84, s32_85, s32_86, s32_89, ai_40 H, aj_40 H, gr_39_2 H, gt_30 H, gt_39 H, am32, isRf_ref, true_and, and_true, aPs_s, aPs_n, b01_0, b01_1, nI_clamp, ix_nI, inb_nI, lt_nI, eq_nI, nn_nI, eq0_nI, pk_mul, nI_add, lt_T, lt_F, if_true, if_false, true_and, and_true, neg1_nI, neg1_lt, neg1_neg, lt_neg1, eqN_F, eq_self,  b, h0]
    · have e : inLp P i = false := by rw [eI]; exact decide_eq_false (fun q => q.2 (by rw [ilt]; exact h2))
      refine Pr_t (h1 := h) (v := if inLp P i = true then aLp P i else -5) (fun Q => ?_) (fun Q2 hQ2 => hin h HM hP R' Q2 hQ2)
      simp (disch := first | omega | assumption | exact gtP H hp | exact gt_2 H | exact gt_29 H | exact gt_39 H | (simp only [gT_pA, gT_pI, gT_pR]; first | assumption | exact gtP H hp | exact gt_2 H | exact gt_29 H | exact gt_39 H) | fail) only [s105_0, s105_1, s105_3, s105_6, s105_7, s105_8, s105_11, s105_14, s105_17, s105_19, s105_20, s105_21, s105_24, s105_27, s105_30, s105_32, s105_33, s105_34, s105_37, s105_38, s105_41, s105_44, s105_47, s105_48, s105_76, s105_77, s105_80, s105_83, s105_84, s105_85, s105_88, s105_91, s105_92, s105_93, s105_94, s105_95, s105_98, s105_101, s105_102, s105_103, ai_40 H, ai_41 H, gr_29_0 H, gr_2_3 H, gr_2_4 H, gr_39_2 H, gr_39_3 H, gtP H hp, gt_2 H, gt_29 H, gt_39 H, am105, isRf_ref, true_and, and_true, aPs_s, aPs_n, b01_0, b01_1, nI_clamp, ix_nI, inb_nI, lt_nI, eq_nI, nn_nI, eq0_nI, pk_mul, nI_add, lt_T, lt_F, if_true, if_false, true_and, and_true, neg1_nI, neg1_lt, neg1_neg, lt_neg1, eqN_F, eq_self,  hn1, e6, r21, h2, e, Bool.not_false, Bool.not_true, Bool.true_and, Bool.false_and, Bool.and_true, Bool.and_false, Bool.or_true, Bool.or_false, Bool.true_or, Bool.false_or, Bool.true_eq_false, Bool.false_eq_true, if_true, if_false, Option.isSome_some, Option.isSome_none, Option.isNone_some, Option.isNone_none, zB_t, zB_f, nI1_0, nI0_0]
theorem Fr_pI2 {S T : Nat → Nat → Prop} {o k o' k' : Nat} {v w : Int32} (h1 : S o k) (h2 : S o' k') : Fr S T h (pI (pI h o k v) o' k' w) := Fr_trans (Fr_pI h1) (Fr_pI h2)
set_option maxHeartbeats 8000000 in
theorem p_lay (R : Rel hs h) {k t : Int32} : Pr d hs h 108 187 [.ref 2, .int k, .int t] [.ref 65, .int k, .int t] := by
  have R' := R
  obtain ⟨p, P, tl, r1, r2, r3, r4, r5, r6, r7, r8, r9, ra, rb⟩ := R
  have R0 := r1
  obtain ⟨-, -, H, HM, AB0⟩ := R0
  have R0 := r2
  obtain ⟨hp, r21, r22, hP, W, Tv, T, h29, hw, TMh⟩ := R0
  have V := W.1
  have s10 := V.s.1
  have C := TMh.1.1
  have f3 := TMh.2.2.1
  have t2 := TMh.2.2.2
  have c44' : ∀ Q', aM (d + 19) 44 [.ref p, .int k] h Q' = Q' (some (.int (zB (bf P k).isSome))) h := fun Q' => c44 H hp C W
  have c131' : ∀ Q', aM (d + 19) 131 [.int t] h Q' = Q' (some (.int (zB (plI t)))) h := fun Q' => c131
  cases eb : bf P k with
  | none =>
    rw [eb] at c44'
    refine Pr_e (h1 := h) (v := -5) (fun Q => ?_) (fun Q => by rw [t187 HM hP, eb]) R'
    simp (disch := first | omega | assumption | exact gtP H hp | exact gt_2 H | (simp only [gT_pA, gT_pI, gT_pR]; first | assumption | exact gtP H hp | exact gt_2 H) | fail) only [s108_0, s108_1, s108_4, s108_5, s108_8, s108_11, s108_13, s108_14, s108_15, s108_18, s108_21, s108_23, s108_24, s108_25, s108_28, s108_29, s108_30, s108_31, s108_32, s108_35, s108_36, s108_37, s108_38, s108_39, ai_45 H, aj_45 H, gr_2_6 H, gtP H hp, gt_2 H, am108, isRf_ref, true_and, and_true, aPs_s, aPs_n, b01_0, b01_1, nI_clamp, ix_nI, inb_nI, lt_nI, eq_nI, nn_nI, eq0_nI, pk_mul, nI_add, lt_T, lt_F, if_true, if_false, true_and, and_true, neg1_nI, neg1_lt, neg1_neg, lt_neg1, eqN_F, eq_self,  r21, c44', Option.isSome_none, Bool.not_false, Bool.not_true, Bool.true_and, Bool.false_and, Bool.and_true, Bool.and_false, Bool.or_true, Bool.or_false, Bool.true_or, Bool.false_or, Bool.true_eq_false, Bool.false_eq_true, if_true, if_false, Option.isSome_some, Option.isSome_none, Option.isNone_some, Option.isNone_none, zB_t, zB_f, nI1_0, nI0_0]
  | some b =>
    obtain ⟨hb, rfl, h68⟩ := bf_w eb
    rw [eb] at c44'
    rcases Bool.eq_false_or_eq_true (plI t) with g | g
    · have e45 := (r5 b hb).1
      have HM1 : KM (pI h 45 b t) := HM
      have e89 : gI (pI h 45 b t) 89 b = gI h 89 b := by rw [pI_def, gI_ne (by decide)]
      refine Pr_e (h1 := pI h 45 b t) (v := gI h 89 b) (fun Q => ?_) (fun Q => by rw [t187 HM1 ((pv_pI (by omega)).trans hP), eb]; simp only [g, if_true, e89]) (h2 := pI (pI h 45 b t) 89 b t) ?_
      · simp (disch := first | omega | assumption | exact gtP H hp | exact gt_2 H | (simp only [gT_pA, gT_pI, gT_pR]; first | assumption | exact gtP H hp | exact gt_2 H) | fail) only [s108_0, s108_1, s108_4, s108_5, s108_8, s108_11, s108_13, s108_14, s108_15, s108_18, s108_21, s108_23, s108_24, s108_25, s108_28, s108_29, s108_30, s108_31, s108_32, s108_35, s108_36, s108_37, s108_38, s108_39, ai_45 H, aj_45 H, gr_2_6 H, gtP H hp, gt_2 H, am108, isRf_ref, true_and, and_true, aPs_s, aPs_n, b01_0, b01_1, nI_clamp, ix_nI, inb_nI, lt_nI, eq_nI, nn_nI, eq0_nI, pk_mul, nI_add, lt_T, lt_F, if_true, if_false, true_and, and_true, neg1_nI, neg1_lt, neg1_neg, lt_neg1, eqN_F, eq_self,  r21, c44', Option.isSome_some, Bool.not_false, Bool.not_true, Bool.true_and, Bool.false_and, Bool.and_true, Bool.and_false, Bool.or_true, Bool.or_false, Bool.true_or, Bool.false_or, Bool.true_eq_false, Bool.false_eq_true, if_true, if_false, Option.isSome_some, Option.isSome_none, Option.isNone_some, Option.isNone_none, zB_t, zB_f, nI1_0, nI0_0, c131', g, hb, e45]
      · have F : Fr (fun o _ => o = 45 ∨ o = 89) dT h (pI (pI h 45 b t) 89 b t) := Fr_pI2 (Or.inl rfl) (Or.inr rfl)
        have r5' : R5 (pI (pI h 45 b t) 89 b t) := by
          intro c hc
          have := r5 c hc
          by_cases e : c = b
          · subst e
            rw [gI_pI, if_neg (by omega), gI_pI, if_pos ⟨rfl, rfl⟩, gI_pI, if_pos ⟨rfl, rfl⟩]
            exact ⟨rfl, g⟩
          · rw [gI_pI, if_neg (by omega), gI_pI, if_neg (by omega), gI_pI, if_neg (by omega), gI_pI, if_neg (by omega)]
            exact this
        exact ⟨p, P, tl, R1_fr (Fr_pT F) (by intro o k; simp only [D1]; omega) r1, R2_fr F (by intro o k; simp only [D2]; omega) r2, R3_fr F (by intro o k; simp only [D3]; omega) r3, R4_fr F (by intro o k; simp only [D4]; omega) r4, r5', R6_fr F (by intro o k; simp only [D6]; omega) r6, R7_fr F (by intro o k; simp only [D7]; omega) r7, R8_fr F (by intro o k; simp only [D8]; omega) r8, R9_fr F (by intro o k; simp only [D9]; omega) r9, RA_fr F (by intro o k; simp only [DA]; omega) ra, RB_fr F (by intro o k; simp only [DB]; omega) rb⟩
    · refine Pr_e (h1 := h) (v := -2) (fun Q => ?_) (fun Q => by rw [t187 HM hP, eb]; simp only [g, if_false, Bool.false_eq_true]) R'
      simp (disch := first | omega | assumption | exact gtP H hp | exact gt_2 H | (simp only [gT_pA, gT_pI, gT_pR]; first | assumption | exact gtP H hp | exact gt_2 H) | fail) only [s108_0, s108_1, s108_4, s108_5, s108_8, s108_11, s108_13, s108_14, s108_15, s108_18, s108_21, s108_23, s108_24, s108_25, s108_28, s108_29, s108_30, s108_31, s108_32, s108_35, s108_36, s108_37, s108_38, s108_39, ai_45 H, aj_45 H, gr_2_6 H, gtP H hp, gt_2 H, am108, isRf_ref, true_and, and_true, aPs_s, aPs_n, b01_0, b01_1, nI_clamp, ix_nI, inb_nI, lt_nI, eq_nI, nn_nI, eq0_nI, pk_mul, nI_add, lt_T, lt_F, if_true, if_false, true_and, and_true, neg1_nI, neg1_lt, neg1_neg, lt_neg1, eqN_F, eq_self,  r21, c44', Option.isSome_some, Bool.not_false, Bool.not_true, Bool.true_and, Bool.false_and, Bool.and_true, Bool.and_false, Bool.or_true, Bool.or_false, Bool.true_or, Bool.false_or, Bool.true_eq_false, Bool.false_eq_true, if_true, if_false, Option.isSome_some, Option.isSome_none, Option.isNone_some, Option.isNone_none, zB_t, zB_f, nI1_0, nI0_0, c131', g]
set_option maxHeartbeats 8000000 in
theorem p_rule (R : Rel hs h) {k : Int32} : Pr d hs h 114 199 [.ref 2, .int k] [.ref 65, .int k] := by
  have R' := R
  obtain ⟨p, P, tl, r1, r2, r3, r4, r5, r6, r7, r8, r9, ra, rb⟩ := R
  have R0 := r1
  obtain ⟨-, -, H, HM, AB0⟩ := R0
  have R0 := r2
  obtain ⟨hp, r21, r22, hP, W, Tv, T, h29, hw, TMh⟩ := R0
  have V := W.1
  have s10 := V.s.1
  have C := TMh.1.1
  have f3 := TMh.2.2.1
  have t2 := TMh.2.2.2
  rcases plc_cases k 3 (by omega) with ⟨j, hj, rfl, e⟩ | ⟨e, e1, e2⟩ | ⟨e, e1, e2, e3, e4⟩
  · obtain ⟨L, hi, q, rl, a1, a2, a3, a4, a5, a6, a7, a8, a9⟩ := r7
    have l1 : ¬ nI 2 < nI j := by rw [lt_nI (by omega) (by omega)]; omega
    have HM1 : KM (pI h 50 2 (nI j)) := HM
    have e34 : gI (pI h 50 2 (nI j)) 65 34 = nI rl := by rw [pI_def, gI_ne (by decide)]; exact a7
    refine Pr_e (h1 := pI h 50 2 (nI j)) (h2 := pI (pI h 50 2 (nI j)) 65 34 (nI j)) (v := nI rl) (fun Q => ?_) (fun Q => by rw [t199 HM1, e, e34]; rfl) ?_
    · simp (disch := first | omega | assumption | exact gt_2 H | exact gt_50 H | (simp only [gT_pA, gT_pI, gT_pR]; first | assumption | exact gt_2 H | exact gt_50 H) | fail) only [s114_0, s114_1, s114_4, s114_5, s114_6, s114_9, s114_11, s114_12, s114_13, s114_16, s114_19, s114_20, s114_21, s114_24, s114_25, s114_28, s114_29, gr_2_9 H, gt_2 H, gt_50 H, am114, isRf_ref, true_and, and_true, aPs_s, aPs_n, b01_0, b01_1, nI_clamp, ix_nI, inb_nI, lt_nI, eq_nI, nn_nI, eq0_nI, pk_mul, nI_add, lt_T, lt_F, if_true, if_false, true_and, and_true, neg1_nI, neg1_lt, neg1_neg, lt_neg1, eqN_F, eq_self,  nn_nI, l1, a6]
    · have F : Fr (fun o k => (o = 50 ∧ k = 2) ∨ (o = 65 ∧ k = 34)) dT h (pI (pI h 50 2 (nI j)) 65 34 (nI j)) := Fr_pI2 (Or.inl ⟨rfl, rfl⟩) (Or.inr ⟨rfl, rfl⟩)
      have r7' : R7 (pI (pI h 50 2 (nI j)) 65 34 (nI j)) P := by
        refine ⟨L, hi, q, j, fun b hb => ?_, ?_, ?_, ?_, ?_, ?_, ?_, hj, a9⟩
        · rw [F.2.2 51 b (by omega), F.2.2 91 b (by omega)]; exact a1 b hb
        · rw [F.2.2 50 1 (by omega)]; exact a2
        · rw [F.2.2 65 33 (by omega)]; exact a3
        · rw [F.2.2 50 0 (by omega)]; exact a4
        · rw [F.2.2 65 32 (by omega)]; exact a5
        · rw [gI_pI, if_neg (by omega), gI_pI, if_pos ⟨rfl, rfl⟩]
        · rw [gI_pI, if_pos ⟨rfl, rfl⟩]
      exact ⟨p, P, tl, R1_fr (Fr_pT F) (by intro o k; simp only [D1]; omega) r1, R2_fr F (by intro o k; simp only [D2]; omega) r2, R3_fr F (by intro o k; simp only [D3]; omega) r3, R4_fr F (by intro o k; simp only [D4]; omega) r4, R5_fr F (by intro o k; simp only [D5]; omega) r5, R6_fr F (by intro o k; simp only [D6]; omega) r6, r7', R8_fr F (by intro o k; simp only [D8]; omega) r8, R9_fr F (by intro o k; simp only [D9]; omega) r9, RA_fr F (by intro o k; simp only [DA]; omega) ra, RB_fr F (by intro o k; simp only [DB]; omega) rb⟩
  · refine Pr_e (h1 := h) (h2 := h) (v := -2) (fun Q => ?_) (fun Q => by rw [t199 HM, e]; rfl) R'
    simp (disch := first | omega | assumption | exact gt_2 H | exact gt_50 H | (simp only [gT_pA, gT_pI, gT_pR]; first | assumption | exact gt_2 H | exact gt_50 H) | fail) only [s114_0, s114_1, s114_4, s114_5, s114_6, s114_9, s114_11, s114_12, s114_13, s114_16, s114_19, s114_20, s114_21, s114_24, s114_25, s114_28, s114_29, gr_2_9 H, gt_2 H, gt_50 H, am114, isRf_ref, true_and, and_true, aPs_s, aPs_n, b01_0, b01_1, nI_clamp, ix_nI, inb_nI, lt_nI, eq_nI, nn_nI, eq0_nI, pk_mul, nI_add, lt_T, lt_F, if_true, if_false, true_and, and_true, neg1_nI, neg1_lt, neg1_neg, lt_neg1, eqN_F, eq_self,  e1]
  · refine Pr_e (h1 := h) (h2 := h) (v := -2) (fun Q => ?_) (fun Q => by rw [t199 HM, e]; rfl) R'
    have : nI 3 - nI 1 = nI 2 := by decide
    rw [this] at e4
    simp (disch := first | omega | assumption | exact gt_2 H | exact gt_50 H | (simp only [gT_pA, gT_pI, gT_pR]; first | assumption | exact gt_2 H | exact gt_50 H) | fail) only [s114_0, s114_1, s114_4, s114_5, s114_6, s114_9, s114_11, s114_12, s114_13, s114_16, s114_19, s114_20, s114_21, s114_24, s114_25, s114_28, s114_29, gr_2_9 H, gt_2 H, gt_50 H, am114, isRf_ref, true_and, and_true, aPs_s, aPs_n, b01_0, b01_1, nI_clamp, ix_nI, inb_nI, lt_nI, eq_nI, nn_nI, eq0_nI, pk_mul, nI_add, lt_T, lt_F, if_true, if_false, true_and, and_true, neg1_nI, neg1_lt, neg1_neg, lt_neg1, eqN_F, eq_self,  e1, e4]
theorem Fr_spX {P : Nat → Nat → Int32} {o : Nat → Nat} {k : Nat} : Fr (fun o _ => o = 48 ∨ o = 49) dT h (spX h P o k) := Fr_trans (Fr_pR (Or.inr (Or.inr (Or.inr ⟨rfl, rfl⟩)))) (Fr_trans (Fr_pA (fun _ => Or.inl rfl)) (Fr_pA (fun _ => Or.inr rfl)))
theorem PH_spX {P : Nat → Nat → Int32} {o : Nat → Nat} : PH (spX h P o (nS P)) P o := by
  refine ⟨?_, fun k hk => ⟨?_, ?_⟩⟩
  · show gR (pR h 47 0 (.ref 29)) 47 0 = .ref 29
    rw [gR_pR, if_pos ⟨rfl, rfl⟩]
  · exact pre_in (g := fun k => nI (tkA P o k)) (f := gI h 48) hk
  · exact pre_in (g := fun k => nI (tkA P o (k + 1))) (f := gI h 49) hk
theorem Rel_sp {P : Nat → Nat → Int32} {o : Nat → Nat} {k : Nat} (R : Rel hs h) : Rel hs (spX h P o k) := Rel_fr Fr_spX (by
  intro o k
  simp only [DZ, D1, D2, D3, D4, D5, D6, D7, D8, D9, DA, DB]
  omega) R
set_option maxHeartbeats 8000000 in
theorem p_pair (R : Rel hs h) {k : Int32} : Pr d hs h 112 197 [.ref 2, .int k] [.ref 65, .int k] := by
  have R' := R
  obtain ⟨p, P, tl, r1, r2, r3, r4, r5, r6, r7, r8, r9, ra, rb⟩ := R
  have R0 := r1
  obtain ⟨-, -, H, HM, AB0⟩ := R0
  have R0 := r2
  obtain ⟨hp, r21, r22, hP, W, Tv, T, h29, hw, TMh⟩ := R0
  have V := W.1
  have s10 := V.s.1
  have C := TMh.1.1
  have f3 := TMh.2.2.1
  have t2 := TMh.2.2.2
  have ref : ∀ h1, KM h1 → pv h1 = P → toH h1 P tl → Rel hs h1 → ∀ Q2 : Option Value → abH → Prop, (∀ h2, Rel hs h2 → Q2 (some (.int (match plc k 401 with
    | none => -2
    | some ph => match oRD P tl with
      | none => -3
      | some o => nI (aPr P o ph)))) h2) → aM (d + 20) 197 [.ref 65, .int k] h1 Q2 := fun h1 k1 k2 k3 k4 Q2 hQ2 => t197 k1 k2 V k3 (fun h' F => hQ2 h' (Rel_Fm F k4))
  rcases plc_cases k 401 (by omega) with ⟨j, hj, rfl, e⟩ | ⟨e, e1, e2⟩ | ⟨e, e1, e2, e3, e4⟩
  · rw [e] at ref
    have l1 : ¬ nI 400 < nI j := by rw [lt_nI (by omega) (by omega)]; omega
    cases ho : oRD P tl with
    | none =>
      rw [ho] at f3 ref
      refine Pr_t (h1 := h) (v := -3) (fun Q => ?_) (ref h HM hP T R')
      simp (disch := first | omega | assumption | exact gt_2 H | exact gt_29 H | exact gt_47 H | (simp only [gT_pA, gT_pI, gT_pR]; first | assumption | exact gt_2 H | exact gt_29 H | exact gt_47 H) | fail) only [s112_0, s112_1, s112_4, s112_5, s112_8, s112_11, s112_13, s112_14, s112_15, s112_18, s112_21, s112_24, s112_26, s112_27, s112_28, s112_31, s112_32, s112_35, s112_38, s112_39, s112_42, s112_43, s112_46, gr_2_3 H, gr_2_8 H, gt_2 H, gt_29 H, gt_47 H, am112, isRf_ref, true_and, and_true, aPs_s, aPs_n, b01_0, b01_1, nI_clamp, ix_nI, inb_nI, lt_nI, eq_nI, nn_nI, eq0_nI, pk_mul, nI_add, lt_T, lt_F, if_true, if_false, true_and, and_true, neg1_nI, neg1_lt, neg1_neg, lt_neg1, eqN_F, eq_self,  nn_nI, l1, f3, Option.isSome_none, Bool.not_false, Bool.not_true, Bool.true_and, Bool.false_and, Bool.and_true, Bool.and_false, Bool.or_true, Bool.or_false, Bool.true_or, Bool.false_or, Bool.true_eq_false, Bool.false_eq_true, if_true, if_false, Option.isSome_some, Option.isSome_none, Option.isNone_some, Option.isNone_none, zB_t, zB_f, nI1_0, nI0_0]
    | some o =>
      obtain ⟨O, L⟩ := t2 o ho
      have f3 : gI h 29 3 = nI 1 := by rw [f3, ho]; rfl
      rw [ho] at ref
      have F : Fr (fun o _ => o = 48 ∨ o = 49) dT h (spX h P o (nS P)) := Fr_spX
      have H1 : KC (spX h P o (nS P)) := KC_47 H
      have M1 : KM (spX h P o (nS P)) := Fr_KM (Fr_pT F) pT_M HM
      have T1 : TM (spX h P o (nS P)) p P (oRD P tl) := TM_cg hp (fun o k q => F.2.2 o k (by omega)) (F.2.1 29 1 (by unfold dT; omega)) (F.2.1 30 0 (by unfold dT; omega)) TMh
      have c38' : ∀ Q', aM (d + 19) 38 [.ref 47, .ref 29] h Q' = Q' none (spX h P o (nS P)) := fun Q' => c38 H hp V TMh.1 O L
      have c39' : ∀ Q', aM (d + 19) 39 [.ref 47, .int (nI j)] (spX h P o (nS P)) Q' = Q' (some (.int (nI (aPr P o j)))) (spX h P o (nS P)) := fun Q' => c39 H1 hp V T1.1 O (T1.2.2.2 o ho).2 PH_spX (by omega)
      have t2a := gt_2 H1
      have q28 := gr_2_8 H1
      have t47 := gt_47 H1
      refine Pr_t (h1 := spX h P o (nS P)) (v := nI (aPr P o j)) (fun Q => ?_) (ref _ M1 ((pv_cg (fun o k q => F.2.2 o k (by omega)) (F.2.2 65 4 (by omega))).trans hP) (toH_cg (F.2.2 65 26 (by omega)) (fun k => F.2.2 88 k (by omega)) T) (Rel_sp R'))
      simp (disch := first | omega | assumption | exact gt_2 H | exact gt_29 H | exact gt_47 H | (simp only [gT_pA, gT_pI, gT_pR]; first | assumption | exact gt_2 H | exact gt_29 H | exact gt_47 H) | fail) only [s112_0, s112_1, s112_4, s112_5, s112_8, s112_11, s112_13, s112_14, s112_15, s112_18, s112_21, s112_24, s112_26, s112_27, s112_28, s112_31, s112_32, s112_35, s112_38, s112_39, s112_42, s112_43, s112_46, gr_2_3 H, gr_2_8 H, gt_2 H, gt_29 H, gt_47 H, am112, isRf_ref, true_and, and_true, aPs_s, aPs_n, b01_0, b01_1, nI_clamp, ix_nI, inb_nI, lt_nI, eq_nI, nn_nI, eq0_nI, pk_mul, nI_add, lt_T, lt_F, if_true, if_false, true_and, and_true, neg1_nI, neg1_lt, neg1_neg, lt_neg1, eqN_F, eq_self,  nn_nI, l1, f3, nI1_0, c38', t2a, q28, c39']
  · rw [e] at ref
    refine Pr_t (h1 := h) (v := -2) (fun Q => ?_) (ref h HM hP T R')
    simp (disch := first | omega | assumption | exact gt_2 H | exact gt_29 H | exact gt_47 H | (simp only [gT_pA, gT_pI, gT_pR]; first | assumption | exact gt_2 H | exact gt_29 H | exact gt_47 H) | fail) only [s112_0, s112_1, s112_4, s112_5, s112_8, s112_11, s112_13, s112_14, s112_15, s112_18, s112_21, s112_24, s112_26, s112_27, s112_28, s112_31, s112_32, s112_35, s112_38, s112_39, s112_42, s112_43, s112_46, gr_2_3 H, gr_2_8 H, gt_2 H, gt_29 H, gt_47 H, am112, isRf_ref, true_and, and_true, aPs_s, aPs_n, b01_0, b01_1, nI_clamp, ix_nI, inb_nI, lt_nI, eq_nI, nn_nI, eq0_nI, pk_mul, nI_add, lt_T, lt_F, if_true, if_false, true_and, and_true, neg1_nI, neg1_lt, neg1_neg, lt_neg1, eqN_F, eq_self,  e1]
  · rw [e] at ref
    have : nI 401 - nI 1 = nI 400 := by decide
    rw [this] at e4
    refine Pr_t (h1 := h) (v := -2) (fun Q => ?_) (ref h HM hP T R')
    simp (disch := first | omega | assumption | exact gt_2 H | exact gt_29 H | exact gt_47 H | (simp only [gT_pA, gT_pI, gT_pR]; first | assumption | exact gt_2 H | exact gt_29 H | exact gt_47 H) | fail) only [s112_0, s112_1, s112_4, s112_5, s112_8, s112_11, s112_13, s112_14, s112_15, s112_18, s112_21, s112_24, s112_26, s112_27, s112_28, s112_31, s112_32, s112_35, s112_38, s112_39, s112_42, s112_43, s112_46, gr_2_3 H, gr_2_8 H, gt_2 H, gt_29 H, gt_47 H, am112, isRf_ref, true_and, and_true, aPs_s, aPs_n, b01_0, b01_1, nI_clamp, ix_nI, inb_nI, lt_nI, eq_nI, nn_nI, eq0_nI, pk_mul, nI_add, lt_T, lt_F, if_true, if_false, true_and, and_true, neg1_nI, neg1_lt, neg1_neg, lt_neg1, eqN_F, eq_self,  e1, e4]
set_option maxHeartbeats 8000000 in
theorem p_phase (R : Rel hs h) {k : Int32} : Pr d hs h 113 198 [.ref 2, .int k] [.ref 65, .int k] := by
  have R' := R
  obtain ⟨p, P, tl, r1, r2, r3, r4, r5, r6, r7, r8, r9, ra, rb⟩ := R
  have R0 := r1
  obtain ⟨-, -, H, HM, AB0⟩ := R0
  have R0 := r2
  obtain ⟨hp, r21, r22, hP, W, Tv, T, h29, hw, TMh⟩ := R0
  have V := W.1
  have s10 := V.s.1
  have C := TMh.1.1
  have f3 := TMh.2.2.1
  have t2 := TMh.2.2.2
  have ref : ∀ h1, KM h1 → pv h1 = P → toH h1 P tl → Rel hs h1 → ∀ Q2 : Option Value → abH → Prop, (∀ h2, Rel hs h2 → Q2 (some (.int (match plc k 401 with
    | none => -2
    | some m => match oRD P tl with
      | none => -3
      | some o => nI (bpF (aPr P o) m).1))) h2) → aM (d + 20) 198 [.ref 65, .int k] h1 Q2 := fun h1 k1 k2 k3 k4 Q2 hQ2 => t198 k1 k2 V k3 (fun h' F => hQ2 h' (Rel_Fm F k4))
  rcases plc_cases k 401 (by omega) with ⟨j, hj, rfl, e⟩ | ⟨e, e1, e2⟩ | ⟨e, e1, e2, e3, e4⟩
  · rw [e] at ref
    have l1 : ¬ nI 400 < nI j := by rw [lt_nI (by omega) (by omega)]; omega
    cases ho : oRD P tl with
    | none =>
      rw [ho] at f3 ref
      refine Pr_t (h1 := h) (v := -3) (fun Q => ?_) (ref h HM hP T R')
      simp (disch := first | omega | assumption | exact gt_2 H | exact gt_29 H | exact gt_47 H | (simp only [gT_pA, gT_pI, gT_pR]; first | assumption | exact gt_2 H | exact gt_29 H | exact gt_47 H) | fail) only [s113_0, s113_1, s113_4, s113_5, s113_8, s113_11, s113_13, s113_14, s113_15, s113_18, s113_21, s113_24, s113_26, s113_27, s113_28, s113_31, s113_32, s113_35, s113_38, s113_39, s113_42, s113_43, s113_46, gr_2_3 H, gr_2_8 H, gt_2 H, gt_29 H, gt_47 H, am113, isRf_ref, true_and, and_true, aPs_s, aPs_n, b01_0, b01_1, nI_clamp, ix_nI, inb_nI, lt_nI, eq_nI, nn_nI, eq0_nI, pk_mul, nI_add, lt_T, lt_F, if_true, if_false, true_and, and_true, neg1_nI, neg1_lt, neg1_neg, lt_neg1, eqN_F, eq_self,  nn_nI, l1, f3, Option.isSome_none, Bool.not_false, Bool.not_true, Bool.true_and, Bool.false_and, Bool.and_true, Bool.and_false, Bool.or_true, Bool.or_false, Bool.true_or, Bool.false_or, Bool.true_eq_false, Bool.false_eq_true, if_true, if_false, Option.isSome_some, Option.isSome_none, Option.isNone_some, Option.isNone_none, zB_t, zB_f, nI1_0, nI0_0]
    | some o =>
      obtain ⟨O, L⟩ := t2 o ho
      have f3 : gI h 29 3 = nI 1 := by rw [f3, ho]; rfl
      rw [ho] at ref
      have F : Fr (fun o _ => o = 48 ∨ o = 49) dT h (spX h P o (nS P)) := Fr_spX
      have H1 : KC (spX h P o (nS P)) := KC_47 H
      have M1 : KM (spX h P o (nS P)) := Fr_KM (Fr_pT F) pT_M HM
      have T1 : TM (spX h P o (nS P)) p P (oRD P tl) := TM_cg hp (fun o k q => F.2.2 o k (by omega)) (F.2.1 29 1 (by unfold dT; omega)) (F.2.1 30 0 (by unfold dT; omega)) TMh
      have c38' : ∀ Q', aM (d + 19) 38 [.ref 47, .ref 29] h Q' = Q' none (spX h P o (nS P)) := fun Q' => c38 H hp V TMh.1 O L
      have c41' : ∀ Q', aM (d + 19) 41 [.ref 47, .int (nI j)] (spX h P o (nS P)) Q' = Q' (some (.int (nI (bpF (aPr P o) j).1))) (spX h P o (nS P)) := fun Q' => c41 H1 hp V T1.1 O (T1.2.2.2 o ho).2 PH_spX (by omega)
      have t2a := gt_2 H1
      have q28 := gr_2_8 H1
      have t47 := gt_47 H1
      refine Pr_t (h1 := spX h P o (nS P)) (v := nI (bpF (aPr P o) j).1) (fun Q => ?_) (ref _ M1 ((pv_cg (fun o k q => F.2.2 o k (by omega)) (F.2.2 65 4 (by omega))).trans hP) (toH_cg (F.2.2 65 26 (by omega)) (fun k => F.2.2 88 k (by omega)) T) (Rel_sp R'))
      simp (disch := first | omega | assumption | exact gt_2 H | exact gt_29 H | exact gt_47 H | (simp only [gT_pA, gT_pI, gT_pR]; first | assumption | exact gt_2 H | exact gt_29 H | exact gt_47 H) | fail) only [s113_0, s113_1, s113_4, s113_5, s113_8, s113_11, s113_13, s113_14, s113_15, s113_18, s113_21, s113_24, s113_26, s113_27, s113_28, s113_31, s113_32, s113_35, s113_38, s113_39, s113_42, s113_43, s113_46, gr_2_3 H, gr_2_8 H, gt_2 H, gt_29 H, gt_47 H, am113, isRf_ref, true_and, and_true, aPs_s, aPs_n, b01_0, b01_1, nI_clamp, ix_nI, inb_nI, lt_nI, eq_nI, nn_nI, eq0_nI, pk_mul, nI_add, lt_T, lt_F, if_true, if_false, true_and, and_true, neg1_nI, neg1_lt, neg1_neg, lt_neg1, eqN_F, eq_self,  nn_nI, l1, f3, nI1_0, c38', t2a, q28, c41']
  · rw [e] at ref
    refine Pr_t (h1 := h) (v := -2) (fun Q => ?_) (ref h HM hP T R')
    simp (disch := first | omega | assumption | exact gt_2 H | exact gt_29 H | exact gt_47 H | (simp only [gT_pA, gT_pI, gT_pR]; first | assumption | exact gt_2 H | exact gt_29 H | exact gt_47 H) | fail) only [s113_0, s113_1, s113_4, s113_5, s113_8, s113_11, s113_13, s113_14, s113_15, s113_18, s113_21, s113_24, s113_26, s113_27, s113_28, s113_31, s113_32, s113_35, s113_38, s113_39, s113_42, s113_43, s113_46, gr_2_3 H, gr_2_8 H, gt_2 H, gt_29 H, gt_47 H, am113, isRf_ref, true_and, and_true, aPs_s, aPs_n, b01_0, b01_1, nI_clamp, ix_nI, inb_nI, lt_nI, eq_nI, nn_nI, eq0_nI, pk_mul, nI_add, lt_T, lt_F, if_true, if_false, true_and, and_true, neg1_nI, neg1_lt, neg1_neg, lt_neg1, eqN_F, eq_self,  e1]
  · rw [e] at ref
    have : nI 401 - nI 1 = nI 400 := by decide
    rw [this] at e4
    refine Pr_t (h1 := h) (v := -2) (fun Q => ?_) (ref h HM hP T R')
    simp (disch := first | omega | assumption | exact gt_2 H | exact gt_29 H | exact gt_47 H | (simp only [gT_pA, gT_pI, gT_pR]; first | assumption | exact gt_2 H | exact gt_29 H | exact gt_47 H) | fail) only [s113_0, s113_1, s113_4, s113_5, s113_8, s113_11, s113_13, s113_14, s113_15, s113_18, s113_21, s113_24, s113_26, s113_27, s113_28, s113_31, s113_32, s113_35, s113_38, s113_39, s113_42, s113_43, s113_46, gr_2_3 H, gr_2_8 H, gt_2 H, gt_29 H, gt_47 H, am113, isRf_ref, true_and, and_true, aPs_s, aPs_n, b01_0, b01_1, nI_clamp, ix_nI, inb_nI, lt_nI, eq_nI, nn_nI, eq0_nI, pk_mul, nI_add, lt_T, lt_F, if_true, if_false, true_and, and_true, neg1_nI, neg1_lt, neg1_neg, lt_neg1, eqN_F, eq_self,  e1, e4]
end R4
