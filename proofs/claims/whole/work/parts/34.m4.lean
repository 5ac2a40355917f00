/-! THE REFERENCE'S PROGRAM: THE ORDER -/
theorem pre_ext {g g' f : Nat → Int32} {n : Nat} (h : ∀ j, j < n → g j = g' j) : pre g n f = pre g' n f := by
  funext j
  unfold pre
  by_cases hj : j < n
  · rw [if_pos hj, if_pos hj, h j hj]
  · rw [if_neg hj, if_neg hj]
def mNx (P : Nat → Nat → Int32) (D : Nat) : Option Nat := fst1 (fun s => mRdy P s D) (nS P) 0
/-- THE ORDER, as far as k places: a told one, or the least that is READY each time; with it the set of STEPS -/
def mOr (P : Nat → Nat → Int32) (tl : Option (Nat → Nat)) : Nat → Option ((Nat → Nat) × Nat)
  | 0 => some (fun _ => 0, 0)
  | k + 1 => match mOr P tl k with
    | none => none
    | some (o, D) => match (match tl with | some f => some (f k) | none => mNx P D) with
      | none => none
      | some s => some (fun j => if j = k then s else o j, D ||| 2 ^ s)
theorem mOr_none {P : Nat → Nat → Int32} {tl : Option (Nat → Nat)} {k : Nat} (h : mOr P tl k = none) : ∀ j, mOr P tl (k + j) = none := by
  intro j
  induction j with
  | zero => exact h
  | succ j ih =>
    show mOr P tl (k + j + 1) = none
    rw [mOr, ih]
theorem mOr_ok {P : Nat → Nat → Int32} {tl : Option (Nat → Nat)} (hs : nS P ≤ 10) (ht : ∀ f, tl = some f → ∀ k, k < nS P → f k < nS P) : ∀ {k : Nat} {o : Nat → Nat} {D : Nat}, k ≤ nS P → mOr P tl k = some (o, D) → D < 1024 ∧ ∀ j, j < k → o j < nS P := by
  intro k
  induction k with
  | zero =>
    intro o D _ h
    cases h
    exact ⟨by decide, fun j hj => by omega⟩
  | succ k ih =>
    intro o D hk h
    rw [mOr] at h
    split at h
    · cases h
    · rename_i o' D' h1
      obtain ⟨a1, a2⟩ := ih (by omega) h1
      split at h
      · cases h
      · rename_i s hs2
        have hsn : s < nS P := by
          cases tl with
          | some f =>
            have hs2 : some (f k) = some s := hs2
            cases hs2
            exact ht f rfl k (by omega)
          | none =>
            have := (fst1_lt (show fst1 _ _ 0 = some s from hs2)).2.1
            omega
        cases h
        refine ⟨or_lt (n := 10) a1 (by omega), fun j hj => ?_⟩
        by_cases q : j = k
        · simp only [q, if_true]; exact hsn
        · simp only [q, if_false]; exact a2 j (by omega)
def hOrd (h : abH) (o : Nat → Nat) (n : Nat) : abH := pA h 97 (pre (fun j => nI (o j)) n (gI h 97))
def hLiv (P : Nat → Nat → Int32) (h : abH) (o : Nat → Nat) (b : Nat) : abH := pA (pA h 98 (pre (fun b => nI (lfE P o b).1) b (gI h 98))) 99 (pre (fun b => oI (lfE P o b).2) b (gI h 99))
section M4
variable {d : Nat} {h : abH} {Q : Option Value → abH → Prop}
set_option maxHeartbeats 4000000 in
/-- the lives of all BUFFERS -/
theorem c163_91 (HM : KM h) {P : Nat → Nat → Int32} (hP : pv h = P) (V : okP P) {o : Nat → Nat} {l1 l3 : Value} (ho : ∀ k, k < nS P → gI h 97 k = nI (o k) ∧ o k < nS P) : aW (d + 2) 163 91 [.ref 65, l1, .int (nI 0), l3] [] h Q = Q (some (.int (nI 1))) (hLiv P h o 12) := by
  have t65 := gt_65 HM
  have loop := for_0 (F := fun b => aW (d + 2) 163 91 [.ref 65, l1, .int (nI b), l3] [] (hLiv P h o b) Q) (R := Q (some (.int (nI 1))) (hLiv P h o 12)) 12 (by
    rw [s163_91]
    simp (disch := first | omega | assumption | (simp only [gT_pA, gT_pR, aI_pA, aI_pR]; assumption)) only [s163_0, s163_1, s163_2, s163_3, s163_5, s163_6, s163_9, s163_12, s163_13, s163_16, s163_19, s163_20, s163_23, s163_24, s163_25, s163_28, s163_29, s163_31, s163_34, s163_37, s163_38, s163_39, s163_42, s163_45, s163_46, s163_47, s163_48, s163_51, s163_54, s163_57, s163_60, s163_61, s163_62, s163_65, s163_68, s163_69, s163_70, s163_71, s163_74, s163_75, s163_76, s163_77, s163_78, s163_79, s163_80, s163_81, s163_82, s163_83, s163_86, s163_89, s163_90, s163_92, s163_94, s163_97, s163_98, s163_99, s163_102, s163_105, s163_108, s163_109, ai_88 HM, aj_97 HM, gr_65_27 HM, gr_65_46 HM, gt_65 HM, am163, isRf_ref, true_and, and_true, aPs_s, aPs_n, b01_0, b01_1, nI_clamp, ix_nI, inb_nI, lt_nI, eq_nI, nn_nI, eq0_nI, pk_mul, nI_add, lt_T, lt_F, if_true, if_false, true_and, and_true, neg1_nI, neg1_lt, neg1_neg, lt_neg1, eqN_F, eq_self]
    ) (fun b hb => by
    have HM2 : KM (hLiv P h o b) := HM
    have t65 := gt_65 HM2
    have hp2 : pv (hLiv P h o b) = P := by unfold hLiv; rw [pv_pA (by omega), pv_pA (by omega), hP]
    have ho2 : ∀ k, k < nS P → gI (hLiv P h o b) 97 k = nI (o k) ∧ o k < nS P := by
      intro k hk
      unfold hLiv
      rw [gI_ne (by omega), gI_ne (by omega)]
      exact ho k hk
    have hc : ∀ Q', aM (d + 1) 164 [.ref 65, .int (nI b)] (hLiv P h o b) Q' = Q' none (hLiv P h o (b + 1)) := by
      intro Q'
      rw [c164 HM2 hp2 hb V ho2]
      congr 1
      unfold hLiv
      simp (disch := omega) only [gI_eq, gI_ne, pA_pA, pA_sw (o := 99) (o2 := 98) (by decide)]
      rw [show (nI (lfE P o b).1) = (fun b => nI (lfE P o b).1) b from rfl, show (oI (lfE P o b).2) = (fun b => oI (lfE P o b).2) b from rfl, pre_upd, pre_upd]
    rw [s163_91]
    simp (disch := first | omega | assumption | (simp only [gT_pA, gT_pR, aI_pA, aI_pR]; assumption)) only [s163_0, s163_1, s163_2, s163_3, s163_5, s163_6, s163_9, s163_12, s163_13, s163_16, s163_19, s163_20, s163_23, s163_24, s163_25, s163_28, s163_29, s163_31, s163_34, s163_37, s163_38, s163_39, s163_42, s163_45, s163_46, s163_47, s163_48, s163_51, s163_54, s163_57, s163_60, s163_61, s163_62, s163_65, s163_68, s163_69, s163_70, s163_71, s163_74, s163_75, s163_76, s163_77, s163_78, s163_79, s163_80, s163_81, s163_82, s163_83, s163_86, s163_89, s163_90, s163_92, s163_94, s163_97, s163_98, s163_99, s163_102, s163_105, s163_108, s163_109, ai_88 HM, aj_97 HM, gr_65_27 HM, gr_65_46 HM, gt_65 HM, am163, isRf_ref, true_and, and_true, aPs_s, aPs_n, b01_0, b01_1, nI_clamp, ix_nI, inb_nI, lt_nI, eq_nI, nn_nI, eq0_nI, pk_mul, nI_add, lt_T, lt_F, if_true, if_false, true_and, and_true, neg1_nI, neg1_lt, neg1_neg, lt_neg1, eqN_F, eq_self, hb, hc])
  have e0 : hLiv P h o 0 = h := by
    unfold hLiv
    rw [pre_0, pre_0]
    rw [show gI h 99 = gI (pA h 98 (gI h 98)) 99 from rfl, pA_self, pA_self]
  rw [e0] at loop
  exact loop
set_option maxHeartbeats 4000000 in
/-- one STEP more of THE ORDER -/
theorem c163_4 (HM : KM h) {P : Nat → Nat → Int32} (hP : pv h = P) (V : okP P) {tl : Option (Nat → Nat)} (h26 : gI h 65 26 = zB tl.isSome) (ht : ∀ f, tl = some f → ∀ k, k < nS P → gI h 88 k = nI (f k) ∧ f k < nS P) {k : Nat} (hk : k < nS P) {o : Nat → Nat} {D : Nat} (ho : mOr P tl k = some (o, D)) {l3 : Value} :
    aW (d + 2) 163 4 [.ref 65, .int (nI D), .int (nI k), l3] [] (hOrd h o k) Q = (match (match tl with | some f => some (f k) | none => mNx P D) with
      | none => Q (some (.int (nI 0))) (hOrd h o k)
      | some s => aW (d + 2) 163 4 [.ref 65, .int (nI (D ||| 2 ^ s)), .int (nI (k + 1)), .int (nI s)] [] (hOrd h (fun j => if j = k then s else o j) (k + 1)) Q) := by
  obtain ⟨s10, e10⟩ := V.s
  obtain ⟨hD, hoj⟩ := mOr_ok s10 (fun f hf k hk => (ht f hf k hk).2) (by omega) ho
  have HM2 : KM (hOrd h o k) := HM
  have t65 := gt_65 HM2
  have hp2 : pv (hOrd h o k) = P := by unfold hOrd; rw [pv_pA (by omega), hP]
  have e10' : gI (hOrd h o k) 65 4 = nI (nS P) := hS hp2 V
  have e26 : gI (hOrd h o k) 65 26 = zB tl.isSome := h26
  have hstore : ∀ s, pI (hOrd h o k) 97 k (nI s) = hOrd h (fun j => if j = k then s else o j) (k + 1) := by
    intro s
    unfold hOrd
    rw [pI_pA]
    congr 1
    have e1 : pre (fun j => nI (o j)) k (gI h 97) = pre (fun j => nI (if j = k then s else o j)) k (gI h 97) := pre_ext (fun j hj => by rw [if_neg (by omega)])
    rw [e1]
    have e2 := pre_upd (g := fun j => nI (if j = k then s else o j)) (n := k) (f := gI h 97)
    simp only [if_true] at e2
    exact e2
  -- behind the search
  have tail : ∀ s, s ≤ nS P → aW (d + 2) 163 60 [.ref 65, .int (nI D), .int (nI k), .int (nI s)] [] (hOrd h o k) Q = if s = nS P then Q (some (.int (nI 0))) (hOrd h o k) else aW (d + 2) 163 4 [.ref 65, .int (nI (D ||| 2 ^ s)), .int (nI (k + 1)), .int (nI s)] [] (hOrd h (fun j => if j = k then s else o j) (k + 1)) Q := by
    intro s hs
    simp (disch := first | omega | assumption | (simp only [gT_pA, gT_pR, aI_pA, aI_pR]; assumption)) only [s163_0, s163_1, s163_2, s163_3, s163_5, s163_6, s163_9, s163_12, s163_13, s163_16, s163_19, s163_20, s163_23, s163_24, s163_25, s163_28, s163_29, s163_31, s163_34, s163_37, s163_38, s163_39, s163_42, s163_45, s163_46, s163_47, s163_48, s163_51, s163_54, s163_57, s163_60, s163_61, s163_62, s163_65, s163_68, s163_69, s163_70, s163_71, s163_74, s163_75, s163_76, s163_77, s163_78, s163_79, s163_80, s163_81, s163_82, s163_83, s163_86, s163_89, s163_90, s163_92, s163_94, s163_97, s163_98, s163_99, s163_102, s163_105, s163_108, s163_109, ai_88 HM, aj_97 HM, gr_65_27 HM, gr_65_46 HM, gt_65 HM, am163, isRf_ref, true_and, and_true, aPs_s, aPs_n, b01_0, b01_1, aj_97 HM2, gr_65_46 HM2, nI_clamp, ix_nI, inb_nI, lt_nI, eq_nI, nn_nI, eq0_nI, pk_mul, nI_add, lt_T, lt_F, if_true, if_false, true_and, and_true, neg1_nI, neg1_lt, neg1_neg, lt_neg1, eqN_F, eq_self, e10', nI_bit, hstore]
  have search : tl = none → ∀ s, s ≤ nS P → aW (d + 2) 163 30 [.ref 65, .int (nI D), .int (nI k), .int (nI s)] [] (hOrd h o k) Q = aW (d + 2) 163 60 [.ref 65, .int (nI D), .int (nI k), .int (nI ((fst1 (fun s => mRdy P s D) (nS P - s) s).getD (nS P)))] [] (hOrd h o k) Q := by
    intro htl
    subst htl
    exact for_dn (F := fun s => aW (d + 2) 163 30 [.ref 65, .int (nI D), .int (nI k), .int (nI s)] [] (hOrd h o k) Q) (R := fun s => aW (d + 2) 163 60 [.ref 65, .int (nI D), .int (nI k), .int (nI ((fst1 (fun s => mRdy P s D) (nS P - s) s).getD (nS P)))] [] (hOrd h o k) Q) (nS P) (by
      rw [s163_30]
      simp (disch := first | omega | assumption | (simp only [gT_pA, gT_pR, aI_pA, aI_pR]; assumption)) only [s163_0, s163_1, s163_2, s163_3, s163_5, s163_6, s163_9, s163_12, s163_13, s163_16, s163_19, s163_20, s163_23, s163_24, s163_25, s163_28, s163_29, s163_31, s163_34, s163_37, s163_38, s163_39, s163_42, s163_45, s163_46, s163_47, s163_48, s163_51, s163_54, s163_57, s163_61, s163_62, s163_65, s163_68, s163_69, s163_70, s163_71, s163_74, s163_75, s163_76, s163_77, s163_78, s163_79, s163_80, s163_81, s163_82, s163_83, s163_86, s163_89, s163_90, s163_92, s163_94, s163_97, s163_98, s163_99, s163_102, s163_105, s163_108, s163_109, ai_88 HM, aj_97 HM, gr_65_27 HM, gr_65_46 HM, gt_65 HM, am163, isRf_ref, true_and, and_true, aPs_s, aPs_n, b01_0, b01_1, nI_clamp, ix_nI, inb_nI, lt_nI, eq_nI, nn_nI, eq0_nI, pk_mul, nI_add, lt_T, lt_F, if_true, if_false, true_and, and_true, neg1_nI, neg1_lt, neg1_neg, lt_neg1, eqN_F, eq_self, Bool.not_false, Bool.not_true, Bool.true_and, Bool.false_and, Bool.and_true, Bool.and_false, Bool.or_true, Bool.or_false, Bool.true_or, Bool.false_or, Bool.true_eq_false, Bool.false_eq_true, if_true, if_false, Option.isSome_some, Option.isSome_none, Option.isNone_some, Option.isNone_none, zB_t, zB_f, nI1_0, nI0_0, e10', e26]
      rw [fst1_end]
      rfl) (fun s hs ih => by
      have hc : ∀ Q', aM (d + 1) 162 [.ref 65, .int (nI s), .int (nI D)] (hOrd h o k) Q' = Q' (some (.int (zB (mRdy P s D)))) (hOrd h o k) := fun Q' => c162 HM2 hp2 hs hD V
      rw [s163_30]
      simp (disch := first | omega | assumption | (simp only [gT_pA, gT_pR, aI_pA, aI_pR]; assumption)) only [s163_0, s163_1, s163_2, s163_3, s163_5, s163_6, s163_9, s163_12, s163_13, s163_16, s163_19, s163_20, s163_23, s163_24, s163_25, s163_28, s163_29, s163_31, s163_34, s163_37, s163_38, s163_39, s163_42, s163_45, s163_46, s163_47, s163_48, s163_51, s163_54, s163_57, s163_61, s163_62, s163_65, s163_68, s163_69, s163_70, s163_71, s163_74, s163_75, s163_76, s163_77, s163_78, s163_79, s163_80, s163_81, s163_82, s163_83, s163_86, s163_89, s163_90, s163_92, s163_94, s163_97, s163_98, s163_99, s163_102, s163_105, s163_108, s163_109, ai_88 HM, aj_97 HM, gr_65_27 HM, gr_65_46 HM, gt_65 HM, am163, isRf_ref, true_and, and_true, aPs_s, aPs_n, b01_0, b01_1, nI_clamp, ix_nI, inb_nI, lt_nI, eq_nI, nn_nI, eq0_nI, pk_mul, nI_add, lt_T, lt_F, if_true, if_false, true_and, and_true, neg1_nI, neg1_lt, neg1_neg, lt_neg1, eqN_F, eq_self, Bool.not_false, Bool.not_true, Bool.true_and, Bool.false_and, Bool.and_true, Bool.and_false, Bool.or_true, Bool.or_false, Bool.true_or, Bool.false_or, Bool.true_eq_false, Bool.false_eq_true, if_true, if_false, Option.isSome_some, Option.isSome_none, Option.isNone_some, Option.isNone_none, zB_t, zB_f, nI1_0, nI0_0, e10', e26, hc]
      simp (disch := first | omega | assumption | (simp only [gT_pA, gT_pR, aI_pA, aI_pR]; assumption)) only [s163_0, s163_1, s163_2, s163_3, s163_5, s163_6, s163_9, s163_12, s163_13, s163_16, s163_19, s163_20, s163_23, s163_24, s163_25, s163_28, s163_29, s163_31, s163_34, s163_37, s163_38, s163_39, s163_42, s163_45, s163_46, s163_47, s163_48, s163_51, s163_54, s163_57, s163_61, s163_62, s163_65, s163_68, s163_69, s163_70, s163_71, s163_74, s163_75, s163_76, s163_77, s163_78, s163_79, s163_80, s163_81, s163_82, s163_83, s163_86, s163_89, s163_90, s163_92, s163_94, s163_97, s163_98, s163_99, s163_102, s163_105, s163_108, s163_109, ai_88 HM, aj_97 HM, gr_65_27 HM, gr_65_46 HM, gt_65 HM, am163, isRf_ref, true_and, and_true, aPs_s, aPs_n, b01_0, b01_1, nI_clamp, ix_nI, inb_nI, lt_nI, eq_nI, nn_nI, eq0_nI, pk_mul, nI_add, lt_T, lt_F, if_true, if_false, true_and, and_true, neg1_nI, neg1_lt, neg1_neg, lt_neg1, eqN_F, eq_self, ih]
      rw [fst1_step hs]
      rcases Bool.eq_false_or_eq_true (mRdy P s D) with h1 | h1 <;> simp only [h1, Bool.not_false, Bool.not_true, Bool.true_and, Bool.false_and, Bool.and_true, Bool.and_false, Bool.or_true, Bool.or_false, Bool.true_or, Bool.false_or, Bool.true_eq_false, Bool.false_eq_true, if_true, if_false, Option.isSome_some, Option.isSome_none, Option.isNone_some, Option.isNone_none, zB_t, zB_f, nI1_0, nI0_0, Option.getD_some])
  cases tl with
  | none =>
    rw [s163_4]
    simp (disch := first | omega | assumption | (simp only [gT_pA, gT_pR, aI_pA, aI_pR]; assumption)) only [s163_0, s163_1, s163_2, s163_3, s163_5, s163_6, s163_9, s163_12, s163_13, s163_16, s163_19, s163_20, s163_23, s163_24, s163_25, s163_28, s163_29, s163_31, s163_34, s163_37, s163_38, s163_39, s163_42, s163_45, s163_46, s163_47, s163_48, s163_51, s163_54, s163_57, s163_61, s163_62, s163_65, s163_68, s163_69, s163_70, s163_71, s163_74, s163_75, s163_76, s163_77, s163_78, s163_79, s163_80, s163_81, s163_82, s163_83, s163_86, s163_89, s163_90, s163_92, s163_94, s163_97, s163_98, s163_99, s163_102, s163_105, s163_108, s163_109, ai_88 HM, aj_97 HM, gr_65_27 HM, gr_65_46 HM, gt_65 HM, am163, isRf_ref, true_and, and_true, aPs_s, aPs_n, b01_0, b01_1, gr_65_27 HM2, nI_clamp, ix_nI, inb_nI, lt_nI, eq_nI, nn_nI, eq0_nI, pk_mul, nI_add, lt_T, lt_F, if_true, if_false, true_and, and_true, neg1_nI, neg1_lt, neg1_neg, lt_neg1, eqN_F, eq_self, Bool.not_false, Bool.not_true, Bool.true_and, Bool.false_and, Bool.and_true, Bool.and_false, Bool.or_true, Bool.or_false, Bool.true_or, Bool.false_or, Bool.true_eq_false, Bool.false_eq_true, if_true, if_false, Option.isSome_some, Option.isSome_none, Option.isNone_some, Option.isNone_none, zB_t, zB_f, nI1_0, nI0_0, e10', e26]
    rw [search rfl 0 (Nat.zero_le _), Nat.sub_zero]
    show _ = (match mNx P D with | none => _ | some s => _)
    unfold mNx
    cases hq : fst1 (fun s => mRdy P s D) (nS P) 0 with
    | none =>
      rw [Option.getD_none, tail _ (Nat.le_refl _), if_pos rfl]
    | some s =>
      have hsn := (fst1_lt hq).2.1
      rw [Option.getD_some, tail _ (by omega), if_neg (by omega)]
  | some f =>
    obtain ⟨f1, f2⟩ := ht f rfl k hk
    have f1' : gI (hOrd h o k) 88 k = nI (f k) := f1
    rw [s163_4]
    simp (disch := first | omega | assumption | (simp only [gT_pA, gT_pR, aI_pA, aI_pR]; assumption)) only [s163_0, s163_1, s163_2, s163_3, s163_5, s163_6, s163_9, s163_12, s163_13, s163_16, s163_19, s163_20, s163_23, s163_24, s163_25, s163_28, s163_29, s163_31, s163_34, s163_37, s163_38, s163_39, s163_42, s163_45, s163_46, s163_47, s163_48, s163_51, s163_54, s163_57, s163_61, s163_62, s163_65, s163_68, s163_69, s163_70, s163_71, s163_74, s163_75, s163_76, s163_77, s163_78, s163_79, s163_80, s163_81, s163_82, s163_83, s163_86, s163_89, s163_90, s163_92, s163_94, s163_97, s163_98, s163_99, s163_102, s163_105, s163_108, s163_109, ai_88 HM, aj_97 HM, gr_65_27 HM, gr_65_46 HM, gt_65 HM, am163, isRf_ref, true_and, and_true, aPs_s, aPs_n, b01_0, b01_1, ai_88 HM2, gr_65_27 HM2, nI_clamp, ix_nI, inb_nI, lt_nI, eq_nI, nn_nI, eq0_nI, pk_mul, nI_add, lt_T, lt_F, if_true, if_false, true_and, and_true, neg1_nI, neg1_lt, neg1_neg, lt_neg1, eqN_F, eq_self, Bool.not_false, Bool.not_true, Bool.true_and, Bool.false_and, Bool.and_true, Bool.and_false, Bool.or_true, Bool.or_false, Bool.true_or, Bool.false_or, Bool.true_eq_false, Bool.false_eq_true, if_true, if_false, Option.isSome_some, Option.isSome_none, Option.isNone_some, Option.isNone_none, zB_t, zB_f, nI1_0, nI0_0, e10', e26, f1']
    rw [s163_30]
    simp (disch := first | omega | assumption | (simp only [gT_pA, gT_pR, aI_pA, aI_pR]; assumption)) only [s163_0, s163_1, s163_2, s163_3, s163_5, s163_6, s163_9, s163_12, s163_13, s163_16, s163_19, s163_20, s163_23, s163_24, s163_25, s163_28, s163_29, s163_31, s163_34, s163_37, s163_38, s163_39, s163_42, s163_45, s163_46, s163_47, s163_48, s163_51, s163_54, s163_57, s163_61, s163_62, s163_65, s163_68, s163_69, s163_70, s163_71, s163_74, s163_75, s163_76, s163_77, s163_78, s163_79, s163_80, s163_81, s163_82, s163_83, s163_86, s163_89, s163_90, s163_92, s163_94, s163_97, s163_98, s163_99, s163_102, s163_105, s163_108, s163_109, ai_88 HM, aj_97 HM, gr_65_27 HM, gr_65_46 HM, gt_65 HM, am163, isRf_ref, true_and, and_true, aPs_s, aPs_n, b01_0, b01_1, nI_clamp, ix_nI, inb_nI, lt_nI, eq_nI, nn_nI, eq0_nI, pk_mul, nI_add, lt_T, lt_F, if_true, if_false, true_and, and_true, neg1_nI, neg1_lt, neg1_neg, lt_neg1, eqN_F, eq_self, Bool.not_false, Bool.not_true, Bool.true_and, Bool.false_and, Bool.and_true, Bool.and_false, Bool.or_true, Bool.or_false, Bool.true_or, Bool.false_or, Bool.true_eq_false, Bool.false_eq_true, if_true, if_false, Option.isSome_some, Option.isSome_none, Option.isNone_some, Option.isNone_none, zB_t, zB_f, nI1_0, nI0_0, e10', e26, Option.isSome_some]
    rw [tail _ (by omega), if_neg (by omega)]
set_option maxHeartbeats 4000000 in
/-- THE ORDER and all lives: whether there is one -/
theorem c163 (HM : KM h) {P : Nat → Nat → Int32} (hP : pv h = P) (V : okP P) {tl : Option (Nat → Nat)} (h26 : gI h 65 26 = zB tl.isSome) (ht : ∀ f, tl = some f → ∀ k, k < nS P → gI h 88 k = nI (f k) ∧ f k < nS P) :
    (mOr P tl (nS P) = none → ∃ A, aM (d + 2) 163 [.ref 65] h Q = Q (some (.int (nI 0))) (pA h 97 A)) ∧
    ∀ o D, mOr P tl (nS P) = some (o, D) → aM (d + 2) 163 [.ref 65] h Q = Q (some (.int (nI 1))) (hLiv P (hOrd h o (nS P)) o 12) := by
  obtain ⟨s10, e10⟩ := V.s
  have ht' : ∀ f, tl = some f → ∀ k, k < nS P → f k < nS P := fun f hf k hk => (ht f hf k hk).2
  have main : ∀ j k, k + j = nS P → ∀ (o : Nat → Nat) (D : Nat), mOr P tl k = some (o, D) → ∀ l3 : Value,
      (mOr P tl (nS P) = none → ∃ A, aW (d + 2) 163 4 [.ref 65, .int (nI D), .int (nI k), l3] [] (hOrd h o k) Q = Q (some (.int (nI 0))) (pA h 97 A)) ∧
      ∀ o2 D2, mOr P tl (nS P) = some (o2, D2) → aW (d + 2) 163 4 [.ref 65, .int (nI D), .int (nI k), l3] [] (hOrd h o k) Q = Q (some (.int (nI 1))) (hLiv P (hOrd h o2 (nS P)) o2 12) := by
    intro j
    induction j with
    | zero =>
      intro k hk o D ho l3
      have hk : k = nS P := hk
      subst hk
      refine ⟨fun h2 => (by rw [ho] at h2; cases h2), fun o2 D2 h2 => ?_⟩
      rw [ho] at h2
      obtain ⟨rfl, rfl⟩ := Prod.mk.inj (Option.some.inj h2)
      have HM2 : KM (hOrd h o (nS P)) := HM
      have t65 := gt_65 HM2
      have hp2 : pv (hOrd h o (nS P)) = P := by unfold hOrd; rw [pv_pA (by omega), hP]
      have e10' : gI (hOrd h o (nS P)) 65 4 = nI (nS P) := hS hp2 V
      rw [s163_4]
      simp (disch := first | omega | assumption | (simp only [gT_pA, gT_pR, aI_pA, aI_pR]; assumption)) only [s163_0, s163_1, s163_2, s163_3, s163_5, s163_6, s163_9, s163_12, s163_13, s163_16, s163_19, s163_20, s163_23, s163_24, s163_25, s163_28, s163_29, s163_31, s163_34, s163_37, s163_38, s163_39, s163_42, s163_45, s163_46, s163_47, s163_48, s163_51, s163_54, s163_57, s163_61, s163_62, s163_65, s163_68, s163_69, s163_70, s163_71, s163_74, s163_75, s163_76, s163_77, s163_78, s163_79, s163_80, s163_81, s163_82, s163_83, s163_86, s163_89, s163_90, s163_92, s163_94, s163_97, s163_98, s163_99, s163_102, s163_105, s163_108, s163_109, ai_88 HM, aj_97 HM, gr_65_27 HM, gr_65_46 HM, gt_65 HM, am163, isRf_ref, true_and, and_true, aPs_s, aPs_n, b01_0, b01_1, nI_clamp, ix_nI, inb_nI, lt_nI, eq_nI, nn_nI, eq0_nI, pk_mul, nI_add, lt_T, lt_F, if_true, if_false, true_and, and_true, neg1_nI, neg1_lt, neg1_neg, lt_neg1, eqN_F, eq_self, e10', Nat.lt_irrefl]
      exact c163_91 HM2 hp2 V (fun k hk => ⟨by unfold hOrd; rw [gI_eq, pre_in hk], (mOr_ok s10 ht' (Nat.le_refl _) ho).2 k hk⟩)
    | succ j ih =>
      intro k hk o D ho l3
      have hkn : k < nS P := by omega
      rw [c163_4 HM hP V h26 ht hkn ho]
      cases hs : (match tl with | some f => some (f k) | none => mNx P D) with
      | none =>
        have hnone : mOr P tl (k + 1) = none := by
          rw [mOr, ho]
          simp only [hs]
        have hn := mOr_none hnone j
        rw [show k + 1 + j = nS P by omega] at hn
        exact ⟨fun _ => ⟨pre (fun j => nI (o j)) k (gI h 97), by unfold hOrd; exact rfl⟩, fun o2 D2 h2 => by rw [hn] at h2; cases h2⟩
      | some s =>
        have hsome : mOr P tl (k + 1) = some (fun j => if j = k then s else o j, D ||| 2 ^ s) := by
          rw [mOr, ho]
          simp only [hs]
        exact ih (k + 1) (by omega) _ _ hsome _
  have m0 := main (nS P) 0 (by omega) (fun _ => 0) 0 (by rw [mOr]) (.retAddr 0)
  have e0 : hOrd h (fun _ => 0) 0 = h := by
    unfold hOrd
    rw [pre_0, pA_self]
  rw [e0] at m0
  have e1 : aM (d + 2) 163 [.ref 65] h Q = aW (d + 2) 163 4 [.ref 65, .int (nI 0), .int (nI 0), .retAddr 0] [] h Q := by
    simp only [s163_0, s163_1, s163_2, s163_3, s163_5, s163_6, s163_9, s163_12, s163_13, s163_16, s163_19, s163_20, s163_23, s163_24, s163_25, s163_28, s163_29, s163_31, s163_34, s163_37, s163_38, s163_39, s163_42, s163_45, s163_46, s163_47, s163_48, s163_51, s163_54, s163_57, s163_61, s163_62, s163_65, s163_68, s163_69, s163_70, s163_71, s163_74, s163_75, s163_76, s163_77, s163_78, s163_79, s163_80, s163_81, s163_82, s163_83, s163_86, s163_89, s163_90, s163_92, s163_94, s163_97, s163_98, s163_99, s163_102, s163_105, s163_108, s163_109, ai_88 HM, aj_97 HM, gr_65_27 HM, gr_65_46 HM, gt_65 HM, am163, isRf_ref, true_and, and_true, aPs_s, aPs_n, b01_0, b01_1]
  rw [e1]
  exact m0
end M4
