/-! THE REFERENCE: program, the whole call -/
section M34
variable {d : Nat} {h : abH} {Q : Option Value → abH → Prop}
/-- a text that is read: the last heap of the reading -/
def pgR (c : Nat → Nat) (T : Nat) (B : Nat → Nat → Int32) : Bool × Nat × (Nat → Nat → Int32) := prg c T 240 0 (bgA B 12)
theorem okA_pg {c : Nat → Nat} {T : Nat} : ∀ {f a : Nat} {A : Nat → Nat → Int32}, okA A → okA (prg c T f a A).2.2 := by
  intro f
  induction f with
  | zero => intro a A h; exact h
  | succ f ih =>
    intro a A h
    rw [prg]
    split
    · split
      · exact ih (okA_one h)
      · exact okA_one h
    · exact h
set_option maxHeartbeats 4000000 in
theorem c151_11 (HM : KM h) {c : Nat → Nat} {T : Nat} (C : tpH h c T) : ∀ {f a : Nat} {A : Nat → Nat → Int32}, okA A → a ≤ T → T ≤ a + f → aW (d + 4) 151 11 [.ref 65, .int (nI 1)] [] (nwH h a A) Q = aW (d + 4) 151 34 [.ref 65, .int (zB (prg c T f a A).1)] [] (nwH h (prg c T f a A).2.1 (prg c T f a A).2.2) Q := by
  have HMa : ∀ a A, KM (nwH h a A) := fun _ _ => HM
  have t65 : ∀ a A, gT (nwH h a A) 65 = some (14, 54) := fun a A => gt_65 (HMa a A)
  have z1 : (nI 1 = 0) = False := nI1_0
  have hT := C.1
  have hT2 := C.2.1
  intro f
  induction f with
  | zero =>
    intro a A hA ha hf
    have : ¬ a < T := by omega
    rw [s151_11, prg]
    simp (disch := first | omega | assumption | exact gt_65 (HMa _ _) | (simp only [gT_pA, gT_pI, gT_pR]; first | assumption | exact gt_65 (HMa _ _)) | fail) only [s151_0, s151_1, s151_2, s151_5, s151_6, s151_9, s151_10, s151_12, s151_15, s151_16, s151_19, s151_20, s151_23, s151_26, s151_27, s151_30, s151_31, s151_35, s151_36, s151_39, s151_40, s151_43, s151_45, s151_46, s151_49, s151_50, s151_51, s151_52, s151_55, s151_56, s151_57, s151_60, s151_61, s151_62, s151_65, s151_66, s151_67, s151_70, s151_71, s151_72, s151_75, s151_76, s151_79, s151_80, s151_81, s151_84, gt_65 (HMa _ _), am151, isRf_ref, true_and, and_true, aPs_s, aPs_n, b01_0, b01_1, nI_clamp, ix_nI, inb_nI, lt_nI, eq_nI, nn_nI, eq0_nI, pk_mul, nI_add, lt_T, lt_F, if_true, if_false, true_and, and_true, neg1_nI, neg1_lt, neg1_neg, lt_neg1, eqN_F, eq_self,  z1, rat, rtT, hT, this, zB_t]
  | succ f ih =>
    intro a A hA ha hf
    rw [s151_11, prg]
    by_cases h1 : a < T
    · have c148' : ∀ Q', aM (d + 3) 148 [.ref 65] (nwH h a A) Q' = Q' (some (.int (zB (one c T a A).1))) (nwH h (one c T a A).2.1 (one c T a A).2.2) := fun Q' => c148 HM C ha hA
      have ho := one_le (c := c) (A := A) ha
      rcases Bool.eq_false_or_eq_true (one c T a A).1 with g | g
      · have := ho.2.2 g
        simp (disch := first | omega | assumption | exact gt_65 (HMa _ _) | (simp only [gT_pA, gT_pI, gT_pR]; first | assumption | exact gt_65 (HMa _ _)) | fail) only [s151_0, s151_1, s151_2, s151_5, s151_6, s151_9, s151_10, s151_12, s151_15, s151_16, s151_19, s151_20, s151_23, s151_26, s151_27, s151_30, s151_31, s151_35, s151_36, s151_39, s151_40, s151_43, s151_45, s151_46, s151_49, s151_50, s151_51, s151_52, s151_55, s151_56, s151_57, s151_60, s151_61, s151_62, s151_65, s151_66, s151_67, s151_70, s151_71, s151_72, s151_75, s151_76, s151_79, s151_80, s151_81, s151_84, gt_65 (HMa _ _), am151, isRf_ref, true_and, and_true, aPs_s, aPs_n, b01_0, b01_1, nI_clamp, ix_nI, inb_nI, lt_nI, eq_nI, nn_nI, eq0_nI, pk_mul, nI_add, lt_T, lt_F, if_true, if_false, true_and, and_true, neg1_nI, neg1_lt, neg1_neg, lt_neg1, eqN_F, eq_self,  z1, rat, rtT, hT, h1, c148', g, Bool.not_false, Bool.not_true, Bool.true_and, Bool.false_and, Bool.and_true, Bool.and_false, Bool.or_true, Bool.or_false, Bool.true_or, Bool.false_or, Bool.true_eq_false, Bool.false_eq_true, if_true, if_false, Option.isSome_some, Option.isSome_none, Option.isNone_some, Option.isNone_none, zB_t, zB_f, nI1_0, nI0_0]
        exact ih (okA_one hA) ho.1 (by omega)
      · simp (disch := first | omega | assumption | exact gt_65 (HMa _ _) | (simp only [gT_pA, gT_pI, gT_pR]; first | assumption | exact gt_65 (HMa _ _)) | fail) only [s151_0, s151_1, s151_2, s151_5, s151_6, s151_9, s151_10, s151_12, s151_15, s151_16, s151_19, s151_20, s151_23, s151_26, s151_27, s151_30, s151_31, s151_35, s151_36, s151_39, s151_40, s151_43, s151_45, s151_46, s151_49, s151_50, s151_51, s151_52, s151_55, s151_56, s151_57, s151_60, s151_61, s151_62, s151_65, s151_66, s151_67, s151_70, s151_71, s151_72, s151_75, s151_76, s151_79, s151_80, s151_81, s151_84, gt_65 (HMa _ _), am151, isRf_ref, true_and, and_true, aPs_s, aPs_n, b01_0, b01_1, nI_clamp, ix_nI, inb_nI, lt_nI, eq_nI, nn_nI, eq0_nI, pk_mul, nI_add, lt_T, lt_F, if_true, if_false, true_and, and_true, neg1_nI, neg1_lt, neg1_neg, lt_neg1, eqN_F, eq_self,  z1, rat, rtT, hT, h1, c148', g, Bool.not_false, Bool.not_true, Bool.true_and, Bool.false_and, Bool.and_true, Bool.and_false, Bool.or_true, Bool.or_false, Bool.true_or, Bool.false_or, Bool.true_eq_false, Bool.false_eq_true, if_true, if_false, Option.isSome_some, Option.isSome_none, Option.isNone_some, Option.isNone_none, zB_t, zB_f, nI1_0, nI0_0]
        rw [s151_11]
        simp (disch := first | omega | assumption | exact gt_65 (HMa _ _) | (simp only [gT_pA, gT_pI, gT_pR]; first | assumption | exact gt_65 (HMa _ _)) | fail) only [s151_0, s151_1, s151_2, s151_5, s151_6, s151_9, s151_10, s151_12, s151_15, s151_16, s151_19, s151_20, s151_23, s151_26, s151_27, s151_30, s151_31, s151_35, s151_36, s151_39, s151_40, s151_43, s151_45, s151_46, s151_49, s151_50, s151_51, s151_52, s151_55, s151_56, s151_57, s151_60, s151_61, s151_62, s151_65, s151_66, s151_67, s151_70, s151_71, s151_72, s151_75, s151_76, s151_79, s151_80, s151_81, s151_84, gt_65 (HMa _ _), am151, isRf_ref, true_and, and_true, aPs_s, aPs_n, b01_0, b01_1, nI_clamp, ix_nI, inb_nI, lt_nI, eq_nI, nn_nI, eq0_nI, pk_mul, nI_add, lt_T, lt_F, if_true, if_false, true_and, and_true, neg1_nI, neg1_lt, neg1_neg, lt_neg1, eqN_F, eq_self,  nI0_0]
    · simp (disch := first | omega | assumption | exact gt_65 (HMa _ _) | (simp only [gT_pA, gT_pI, gT_pR]; first | assumption | exact gt_65 (HMa _ _)) | fail) only [s151_0, s151_1, s151_2, s151_5, s151_6, s151_9, s151_10, s151_12, s151_15, s151_16, s151_19, s151_20, s151_23, s151_26, s151_27, s151_30, s151_31, s151_35, s151_36, s151_39, s151_40, s151_43, s151_45, s151_46, s151_49, s151_50, s151_51, s151_52, s151_55, s151_56, s151_57, s151_60, s151_61, s151_62, s151_65, s151_66, s151_67, s151_70, s151_71, s151_72, s151_75, s151_76, s151_79, s151_80, s151_81, s151_84, gt_65 (HMa _ _), am151, isRf_ref, true_and, and_true, aPs_s, aPs_n, b01_0, b01_1, nI_clamp, ix_nI, inb_nI, lt_nI, eq_nI, nn_nI, eq0_nI, pk_mul, nI_add, lt_T, lt_F, if_true, if_false, true_and, and_true, neg1_nI, neg1_lt, neg1_neg, lt_neg1, eqN_F, eq_self,  z1, rat, rtT, hT, h1, zB_t]
/-- the heap behind a text with a FAULT -/
def pgF (h : abH) (r : Bool × Nat × (Nat → Nat → Int32)) : abH := pI (nwH h r.2.1 r.2.2) 65 1 (nI 0)
/-- the heap behind a text that is taken -/
def pgT (h : abH) (A : Nat → Nat → Int32) : abH := agH (pI (pI (pI h 65 2 (gI h 65 2 + nI 1)) 65 26 (nI 0)) 65 36 (nI 0))
def pgH (h : abH) (r : Bool × Nat × (Nat → Nat → Int32)) : abH := pgT (tkH (pI (pgF h r) 65 4 (r.2.2 65 4)) r.2.2 12 48 (nS r.2.2) (4 * nS r.2.2)) r.2.2
set_option maxHeartbeats 8000000 in
theorem c151 (HM : KM h) {c : Nat → Nat} {T : Nat} (C : tpH h c T) : aM (d + 4) 151 [.ref 65] h Q = (if (pgR c T (nwV h)).1 = true then Q (some (.int (nI (nS (pgR c T (nwV h)).2.2)))) (pgH h (pgR c T (nwV h))) else Q (some (.int ((-100) - nI (pgR c T (nwV h)).2.1))) (pgF h (pgR c T (nwV h)))) := by
  have HMa : ∀ a A, KM (nwH h a A) := fun _ _ => HM
  have t65 : ∀ a A, gT (nwH h a A) 65 = some (14, 54) := fun a A => gt_65 (HMa a A)
  have st : pI h 65 45 (nI 0) = nwH h 0 (nwV h) := by
    have e0 : nwH (pI h 65 45 (nI 0)) 0 (nwV (pI h 65 45 (nI 0))) = pI h 65 45 (nI 0) := nw_start (by rw [pI_def, gI_eq, upd_eq])
    rw [← e0]
    have e1 : nwV (pI h 65 45 (nI 0)) = nwV h := by
      funext o
      unfold nwV
      by_cases g : 68 ≤ o ∧ o ≤ 77
      · rw [if_pos g, if_pos g, pI_def, gI_ne (by omega)]
      · rw [if_neg g, if_neg g]
        funext k
        split
        · rw [pI_def, gI_eq, upd_ne (by decide)]
        · rfl
    rw [e1]
    have e2 : nwF (pI h 65 45 (nI 0)) 0 (nwV h) = nwF h 0 (nwV h) := by
      funext o
      unfold nwF
      split
      · rfl
      · split
        · rw [pI_def, gI_eq, upd_upd]
        · rename_i q
          rw [pI_def, gI_ne q]
    unfold nwH
    rw [e2]
    rfl
  have c149' : ∀ Q', aM (d + 3) 149 [.ref 65] (nwH h 0 (nwV h)) Q' = Q' none (nwH h 0 (bgA (nwV h) 12)) := fun Q' => c149 HM
  have main := c151_11 (d := d) (Q := Q) HM C (f := 240) (a := 0) (A := bgA (nwV h) 12) okA_bg (Nat.zero_le _) (by have := C.2.1; omega)
  have okR : okA (pgR c T (nwV h)).2.2 := okA_pg okA_bg
  have aR : (pgR c T (nwV h)).2.1 ≤ T := prg_le (Nat.zero_le _)
  have hm0 := gt_65 HM
  simp (disch := first | omega | assumption | exact gt_65 HM | (simp only [gT_pA, gT_pI, gT_pR]; first | assumption | exact gt_65 HM) | fail) only [s151_0, s151_1, s151_2, s151_6, s151_9, s151_10, s151_12, s151_15, s151_16, s151_19, s151_20, s151_23, s151_26, s151_27, s151_30, s151_31, s151_34, s151_35, s151_36, s151_39, s151_40, s151_43, s151_45, s151_46, s151_49, s151_50, s151_51, s151_52, s151_55, s151_56, s151_57, s151_60, s151_61, s151_62, s151_65, s151_66, s151_67, s151_70, s151_71, s151_72, s151_75, s151_76, s151_79, s151_80, s151_81, s151_84, gt_65 HM, am151, isRf_ref, true_and, and_true, aPs_s, aPs_n, b01_0, b01_1, nI_clamp, ix_nI, inb_nI, lt_nI, eq_nI, nn_nI, eq0_nI, pk_mul, nI_add, lt_T, lt_F, if_true, if_false, true_and, and_true, neg1_nI, neg1_lt, neg1_neg, lt_neg1, eqN_F, eq_self,  st]
  rw [s151_5]
  simp (disch := first | omega | assumption | exact gt_65 (HMa _ _) | (simp only [gT_pA, gT_pI, gT_pR]; first | assumption | exact gt_65 (HMa _ _)) | fail) only [s151_0, s151_1, s151_2, s151_5, s151_6, s151_9, s151_10, s151_12, s151_15, s151_16, s151_19, s151_20, s151_23, s151_26, s151_27, s151_30, s151_31, s151_34, s151_35, s151_36, s151_39, s151_40, s151_43, s151_45, s151_46, s151_49, s151_50, s151_51, s151_52, s151_55, s151_56, s151_57, s151_60, s151_61, s151_62, s151_65, s151_66, s151_67, s151_70, s151_71, s151_72, s151_75, s151_76, s151_79, s151_80, s151_81, s151_84, gt_65 (HMa _ _), am151, isRf_ref, true_and, and_true, aPs_s, aPs_n, b01_0, b01_1, nI_clamp, ix_nI, inb_nI, lt_nI, eq_nI, nn_nI, eq0_nI, pk_mul, nI_add, lt_T, lt_F, if_true, if_false, true_and, and_true, neg1_nI, neg1_lt, neg1_neg, lt_neg1, eqN_F, eq_self,  c149']
  rw [main, s151_34]
  change okA (prg c T 240 0 (bgA (nwV h) 12)).2.2 at okR
  unfold pgR
  generalize prg c T 240 0 (bgA (nwV h) 12) = r at *
  have HF : KM (pgF h r) := HM
  have tr := t65 r.2.1 r.2.2
  have eF : pI (nwH h r.2.1 r.2.2) 65 1 (nI 0) = pgF h r := rfl
  have aF : gI (pgF h r) 65 45 = nI r.2.1 := rfl
  rcases Bool.eq_false_or_eq_true r.1 with g | g
  · have c150' : ∀ Q', aM (d + 3) 150 [.ref 65] (pgF h r) Q' = Q' none (tkH (pI (pgF h r) 65 4 (r.2.2 65 4)) r.2.2 12 48 (nS r.2.2) (4 * nS r.2.2)) := fun Q' => c150 HF rfl rfl rfl rfl rfl rfl rfl rfl rfl rfl rfl okR
    unfold pgH
    generalize hY : tkH (pI (pgF h r) 65 4 (r.2.2 65 4)) r.2.2 12 48 (nS r.2.2) (4 * nS r.2.2) = Y at c150' ⊢
    have HY : KM Y := by rw [← hY]; exact HM
    have HY1 : KM (pI Y 65 2 (gI Y 65 2 + nI 1)) := HY
    have HY2 : KM (pI (pI Y 65 2 (gI Y 65 2 + nI 1)) 65 26 (nI 0)) := HY
    have HY3 : KM (pI (pI (pI Y 65 2 (gI Y 65 2 + nI 1)) 65 26 (nI 0)) 65 36 (nI 0)) := HY
    have c209' : ∀ Q', aM (d + 3) 209 [.ref 65] (pI (pI (pI Y 65 2 (gI Y 65 2 + nI 1)) 65 26 (nI 0)) 65 36 (nI 0)) Q' = Q' (some (.int (gI Y 65 32))) (pgT Y r.2.2) := by
      intro Q'
      rw [c209 HY3]
      rfl
    have s4 : gI (pgT Y r.2.2) 65 4 = nI (nS r.2.2) := by
      have : gI (pgT Y r.2.2) 65 4 = gI Y 65 4 := rfl
      rw [this, ← hY]
      exact okR.1
    have HY4 : KM (pgT Y r.2.2) := HY
    have tY0 := gt_65 HY
    have tY1 := gt_65 HY1
    have tY2 := gt_65 HY2
    have tY3 := gt_65 HY3
    have tY4 := gt_65 HY4
    simp (disch := first | omega | assumption | exact gt_65 HF | (simp only [gT_pA, gT_pI, gT_pR]; first | assumption | exact gt_65 HF) | fail) only [s151_0, s151_1, s151_2, s151_5, s151_6, s151_9, s151_10, s151_12, s151_15, s151_16, s151_19, s151_20, s151_23, s151_26, s151_27, s151_30, s151_31, s151_35, s151_36, s151_39, s151_40, s151_43, s151_45, s151_46, s151_49, s151_50, s151_51, s151_52, s151_55, s151_56, s151_57, s151_60, s151_61, s151_62, s151_65, s151_66, s151_67, s151_70, s151_71, s151_72, s151_75, s151_76, s151_79, s151_80, s151_81, s151_84, gt_65 HF, am151, isRf_ref, true_and, and_true, aPs_s, aPs_n, b01_0, b01_1, nI_clamp, ix_nI, inb_nI, lt_nI, eq_nI, nn_nI, eq0_nI, pk_mul, nI_add, lt_T, lt_F, if_true, if_false, true_and, and_true, neg1_nI, neg1_lt, neg1_neg, lt_neg1, eqN_F, eq_self,  eF, g, Bool.not_false, Bool.not_true, Bool.true_and, Bool.false_and, Bool.and_true, Bool.and_false, Bool.or_true, Bool.or_false, Bool.true_or, Bool.false_or, Bool.true_eq_false, Bool.false_eq_true, if_true, if_false, Option.isSome_some, Option.isSome_none, Option.isNone_some, Option.isNone_none, zB_t, zB_f, nI1_0, nI0_0, c150', c209', s4, b01_0]
  · simp (disch := first | omega | assumption | exact gt_65 HF | (simp only [gT_pA, gT_pI, gT_pR]; first | assumption | exact gt_65 HF) | fail) only [s151_0, s151_1, s151_2, s151_5, s151_6, s151_9, s151_10, s151_12, s151_15, s151_16, s151_19, s151_20, s151_23, s151_26, s151_27, s151_30, s151_31, s151_35, s151_36, s151_39, s151_40, s151_43, s151_45, s151_46, s151_49, s151_50, s151_51, s151_52, s151_55, s151_56, s151_57, s151_60, s151_61, s151_62, s151_65, s151_66, s151_67, s151_70, s151_71, s151_72, s151_75, s151_76, s151_79, s151_80, s151_81, s151_84, gt_65 HF, am151, isRf_ref, true_and, and_true, aPs_s, aPs_n, b01_0, b01_1, nI_clamp, ix_nI, inb_nI, lt_nI, eq_nI, nn_nI, eq0_nI, pk_mul, nI_add, lt_T, lt_F, if_true, if_false, true_and, and_true, neg1_nI, neg1_lt, neg1_neg, lt_neg1, eqN_F, eq_self,  eF, g, Bool.not_false, Bool.not_true, Bool.true_and, Bool.false_and, Bool.and_true, Bool.and_false, Bool.or_true, Bool.or_false, Bool.true_or, Bool.false_or, Bool.true_eq_false, Bool.false_eq_true, if_true, if_false, Option.isSome_some, Option.isSome_none, Option.isNone_some, Option.isNone_none, zB_t, zB_f, nI1_0, nI0_0, aF]
end M34
