/-! THE REFERENCE'S PROGRAM: small methods -/
theorem for_dn {F R : Nat → Prop} (N : Nat) (hend : F N = R N) (hstep : ∀ k, k < N → F (k + 1) = R (k + 1) → F k = R k) : ∀ k, k ≤ N → F k = R k := by
  intro k hk
  obtain ⟨j, rfl⟩ := Nat.exists_eq_add_of_le hk
  clear hk
  induction j generalizing k with
  | zero => exact hend
  | succ j ih =>
    refine hstep k (by omega) ?_
    have e : k + (j + 1) = k + 1 + j := by omega
    rw [e] at hend hstep
    exact ih (k + 1) hend hstep
theorem for_ds {σ : Type} {F : Nat → σ → Prop} {R : Nat → Prop} (N : Nat) (hend : ∀ s, F N s = R N) (hstep : ∀ k, k < N → (∀ s, F (k + 1) s = R (k + 1)) → ∀ s, F k s = R k) : ∀ k, k ≤ N → ∀ s, F k s = R k := by
  intro k hk
  obtain ⟨j, rfl⟩ := Nat.exists_eq_add_of_le hk
  clear hk
  induction j generalizing k with
  | zero => exact hend
  | succ j ih =>
    refine hstep k (by omega) ?_
    have e : k + (j + 1) = k + 1 + j := by omega
    rw [e] at hend hstep
    exact ih (k + 1) hend hstep
/-- the first of n numbers from k on with p -/
def fst1 (p : Nat → Bool) : Nat → Nat → Option Nat
  | 0, _ => none
  | n + 1, k => if p k = true then some k else fst1 p n (k + 1)
theorem fst1_step {p : Nat → Bool} {N k : Nat} (h : k < N) : fst1 p (N - k) k = if p k = true then some k else fst1 p (N - (k + 1)) (k + 1) := by
  rw [show N - k = (N - (k + 1)) + 1 by omega, fst1]
theorem fst1_end {p : Nat → Bool} {N : Nat} : fst1 p (N - N) N = none := by rw [Nat.sub_self, fst1]
def oI : Option Nat → Int32
  | some s => nI s
  | none => -1
def kTicks (k t : Int32) : Int32 := if k = nI 1 then (t + nI 1) / nI 2 else if k = nI 3 then (t + nI 1) / nI 2 + nI 2 else if k = nI 4 then nI 3 * t else t
def kScr (k r w : Int32) : Int32 := if k = nI 2 then w else if k = nI 3 then (if w < r then r else w) / nI 2 else if k = nI 4 then w + r else if k = nI 5 then w / nI 8 else nI 0
def kOver (k : Int32) : Bool := decide (k = nI 2 ∨ ¬ k < nI 4)
theorem nI2_0 : (nI 2 = 0) = False := by decide +kernel
theorem nI8_0 : (nI 8 = 0) = False := by decide +kernel
/-- SIZE of a BUFFER by its TERMS -/
def mSz (P : Nat → Nat → Int32) (b : Nat) : Nat → Int32
  | 0 => nI 0
  | k + 1 => mSz P b k + P 70 (4 * b + k) * (if P 71 (4 * b + k) = -1 then nI 1 else P 67 (ix (P 71 (4 * b + k))))
def nS (P : Nat → Nat → Int32) : Nat := ix (P 65 4)
def nRc (P : Nat → Nat → Int32) (s : Nat) : Nat := ix (P 76 s)
def nRd (P : Nat → Nat → Int32) (s k : Nat) : Nat := ix (P 77 (4 * s + k))
def nWt (P : Nat → Nat → Int32) (s : Nat) : Nat := ix (P 75 s)
def mSize (P : Nat → Nat → Int32) (b : Nat) : Int32 := mSz P b (ix (P 69 b))
/-- a program that is told well -/
def okP (P : Nat → Nat → Int32) : Prop :=
  bn (P 65 4) 11 ∧
  (∀ b, b < 12 → bn (P 69 b) 5 ∧ b01 (P 68 b) ∧ b01 (P 72 b) ∧ ∀ k, k < ix (P 69 b) → (P 71 (4 * b + k) = -1 ∨ bn (P 71 (4 * b + k)) 4) ∧ bn (P 70 (4 * b + k)) 100) ∧
  (∀ s, s < ix (P 65 4) → bn (P 73 s) 6 ∧ bn (P 74 s) 100 ∧ bn (P 75 s) 12 ∧ bn (P 76 s) 5 ∧ ∀ k, k < ix (P 76 s) → bn (P 77 (4 * s + k)) 12) ∧
  ∀ j, j < 4 → bn (P 67 j) 100
/-- the program's part of what the reference holds -/
def pv (h : abH) : Nat → Nat → Int32 := fun o => if 67 ≤ o ∧ o ≤ 77 then gI h o else if o = 65 then (fun k => if k = 4 then gI h 65 4 else 0) else fun _ => 0
theorem pv_67 {h : abH} : pv h 67 = gI h 67 := rfl
theorem pv_68 {h : abH} : pv h 68 = gI h 68 := rfl
theorem pv_69 {h : abH} : pv h 69 = gI h 69 := rfl
theorem pv_70 {h : abH} : pv h 70 = gI h 70 := rfl
theorem pv_71 {h : abH} : pv h 71 = gI h 71 := rfl
theorem pv_72 {h : abH} : pv h 72 = gI h 72 := rfl
theorem pv_73 {h : abH} : pv h 73 = gI h 73 := rfl
theorem pv_74 {h : abH} : pv h 74 = gI h 74 := rfl
theorem pv_75 {h : abH} : pv h 75 = gI h 75 := rfl
theorem pv_76 {h : abH} : pv h 76 = gI h 76 := rfl
theorem pv_77 {h : abH} : pv h 77 = gI h 77 := rfl
theorem pv_65 {h : abH} : pv h 65 4 = gI h 65 4 := rfl
theorem pv_pA {h : abH} {o : Nat} {f : Nat → Int32} (ho : o < 65 ∨ 77 < o) : pv (pA h o f) = pv h := by
  funext q
  unfold pv
  simp only [gI_pA]
  by_cases hq : 67 ≤ q ∧ q ≤ 77
  · rw [if_pos hq, if_pos hq, if_neg (by omega)]
  · rw [if_neg hq, if_neg hq]
    by_cases h65 : q = 65
    · rw [if_pos h65, if_pos h65, if_neg (by omega)]
    · rw [if_neg h65, if_neg h65]
theorem pv_pI {h : abH} {o k : Nat} {v : Int32} (ho : o < 65 ∨ 77 < o ∨ (o = 65 ∧ k ≠ 4)) : pv (pI h o k v) = pv h := by
  funext q
  unfold pv
  by_cases hq : 67 ≤ q ∧ q ≤ 77
  · rw [if_pos hq, if_pos hq, pI_I, if_neg (by omega)]
  · rw [if_neg hq, if_neg hq]
    by_cases h65 : q = 65
    · rw [if_pos h65, if_pos h65]
      funext j
      by_cases hj : j = 4
      · rw [if_pos hj, if_pos hj, gI_pI, if_neg (by omega)]
      · rw [if_neg hj, if_neg hj]
    · rw [if_neg h65, if_neg h65]
theorem pv_pR {h : abH} {o k : Nat} {v : Value} : pv (pR h o k v) = pv h := rfl
section M1
variable {d : Nat} {h : abH} {Q : Option Value → abH → Prop}
theorem c139 {v lo hi : Int32} : aM d 139 [.int v, .int lo, .int hi] h Q = Q (some (.int (zB (decide (¬ v < lo ∧ ¬ hi < v))))) h := by
  simp only [s139_0, s139_1, s139_2, s139_5, s139_6, s139_7, s139_10, s139_11, s139_14, s139_15, am139, isRf_ref, true_and, and_true, aPs_s, aPs_n, b01_0, b01_1]
  by_cases h1 : v < lo <;> by_cases h2 : hi < v <;> simp [h1, h2, zB]
theorem c155 {k t : Int32} : aM d 155 [.int k, .int t] h Q = Q (some (.int (kTicks k t))) h := by
  simp only [s155_0, s155_1, s155_2, s155_5, s155_6, s155_7, s155_8, s155_9, s155_10, s155_13, s155_14, s155_15, s155_18, s155_19, s155_20, s155_21, s155_22, s155_23, s155_24, s155_25, s155_28, s155_29, s155_30, s155_33, s155_34, s155_35, s155_36, s155_39, s155_40, am155, isRf_ref, true_and, and_true, aPs_s, aPs_n, b01_0, b01_1, nI2_0, not_false_eq_true]
  unfold kTicks
  split
  · rfl
  split
  · rfl
  split <;> rfl
theorem c156 {k r w : Int32} : aM d 156 [.int k, .int r, .int w] h Q = Q (some (.int (kScr k r w))) h := by
  simp only [s156_0, s156_1, s156_2, s156_5, s156_6, s156_9, s156_10, s156_11, s156_14, s156_15, s156_16, s156_19, s156_20, s156_23, s156_24, s156_25, s156_26, s156_29, s156_30, s156_31, s156_34, s156_35, s156_36, s156_37, s156_40, s156_41, s156_42, s156_45, s156_46, s156_48, s156_49, s156_52, s156_53, am156, isRf_ref, true_and, and_true, aPs_s, aPs_n, b01_0, b01_1, nI2_0, nI8_0, not_false_eq_true]
  unfold kScr
  split
  · rfl
  split
  · split <;> rfl
  split
  · rfl
  split <;> rfl
theorem c157 {k : Int32} : aM d 157 [.int k] h Q = Q (some (.int (zB (kOver k)))) h := by
  simp only [s157_0, s157_1, s157_2, s157_5, s157_6, s157_7, s157_10, s157_11, s157_14, s157_15, am157, isRf_ref, true_and, and_true, aPs_s, aPs_n, b01_0, b01_1]
  unfold kOver
  by_cases h1 : k = nI 2 <;> by_cases h2 : k < nI 4 <;> simp [h1, h2, zB]
set_option maxHeartbeats 4000000 in
theorem c154 (HM : KM h) {P : Nat → Nat → Int32} (hP : pv h = P) {b : Nat} (hb : b < 12) (V : okP P) : aM d 154 [.ref 65, .int (nI b)] h Q = Q (some (.int (mSize P b))) h := by
  subst hP
  obtain ⟨-, V, -⟩ := V
  obtain ⟨V1, -, -, V⟩ := V b hb
  obtain ⟨T, hT, eT⟩ := bn_of V1
  unfold mSize
  simp only [pv_69, pv_71] at eT V ⊢
  rw [eT, ix_nI (by omega)] at V ⊢
  have loop := for_s (σ := Value) (F := fun k l4 => aW d 154 4 [.ref 65, .int (nI b), .int (mSz (pv h) b k), .int (nI k), l4] [] h Q) (R := Q (some (.int (mSz (pv h) b T))) h) T (fun l4 => by
    rw [s154_4]
    simp only [s154_0, s154_1, s154_2, s154_3, s154_5, s154_6, s154_9, s154_10, s154_11, s154_14, s154_15, s154_18, s154_19, s154_20, s154_21, s154_22, s154_23, s154_24, s154_26, s154_27, s154_28, s154_31, s154_32, s154_33, s154_34, s154_35, s154_36, s154_37, s154_39, s154_40, s154_43, s154_44, s154_47, s154_48, s154_51, s154_53, s154_56, s154_57, s154_60, s154_62, s154_63, s154_64, s154_65, s154_66, s154_69, s154_72, s154_73, ai_67 HM, ai_69 HM, ai_70 HM, ai_71 HM, gr_65_3 HM, gr_65_6 HM, gr_65_7 HM, gr_65_8 HM, gt_65 HM, am154, isRf_ref, true_and, and_true, aPs_s, aPs_n, b01_0, b01_1]
    simp (disch := omega) only [nI_clamp, ix_nI, inb_nI, lt_nI, eq_nI, nn_nI, eq0_nI, pk_mul, nI_add, lt_T, lt_F, if_true, if_false, true_and, and_true, neg1_nI, neg1_lt, neg1_neg, lt_neg1, eqN_F, eq_self, eT]) (fun k hk l4 => by
    rw [s154_4]
    simp only [s154_0, s154_1, s154_2, s154_3, s154_5, s154_6, s154_9, s154_10, s154_11, s154_14, s154_15, s154_18, s154_19, s154_20, s154_21, s154_22, s154_23, s154_24, s154_26, s154_27, s154_28, s154_31, s154_32, s154_33, s154_34, s154_35, s154_36, s154_37, s154_39, s154_40, s154_43, s154_44, s154_47, s154_48, s154_51, s154_53, s154_56, s154_57, s154_60, s154_62, s154_63, s154_64, s154_65, s154_66, s154_69, s154_72, s154_73, ai_67 HM, ai_69 HM, ai_70 HM, ai_71 HM, gr_65_3 HM, gr_65_6 HM, gr_65_7 HM, gr_65_8 HM, gt_65 HM, am154, isRf_ref, true_and, and_true, aPs_s, aPs_n, b01_0, b01_1]
    simp (disch := omega) only [nI_clamp, ix_nI, inb_nI, lt_nI, eq_nI, nn_nI, eq0_nI, pk_mul, nI_add, lt_T, lt_F, if_true, if_false, true_and, and_true, neg1_nI, neg1_lt, neg1_neg, lt_neg1, eqN_F, eq_self, eT]
    refine ⟨.int (gI h 71 (4 * b + k)), ?_⟩
    rcases (V k hk).1 with e | e
    · simp only [e, mSz, pv_70, pv_71, if_true]
    · obtain ⟨j, hj, e⟩ := bn_of e
      simp (disch := omega) only [e, mSz, pv_70, pv_71, pv_67, nI_clamp, ix_nI, inb_nI, lt_nI, eq_nI, nn_nI, eq0_nI, pk_mul, nI_add, lt_T, lt_F, if_true, if_false, true_and, and_true, neg1_nI, neg1_lt, neg1_neg, lt_neg1, eqN_F, eq_self])
  simp only [s154_0, s154_1, s154_2, s154_3, s154_5, s154_6, s154_9, s154_10, s154_11, s154_14, s154_15, s154_18, s154_19, s154_20, s154_21, s154_22, s154_23, s154_24, s154_26, s154_27, s154_28, s154_31, s154_32, s154_33, s154_34, s154_35, s154_36, s154_37, s154_39, s154_40, s154_43, s154_44, s154_47, s154_48, s154_51, s154_53, s154_56, s154_57, s154_60, s154_62, s154_63, s154_64, s154_65, s154_66, s154_69, s154_72, s154_73, ai_67 HM, ai_69 HM, ai_70 HM, ai_71 HM, gr_65_3 HM, gr_65_6 HM, gr_65_7 HM, gr_65_8 HM, gt_65 HM, am154, isRf_ref, true_and, and_true, aPs_s, aPs_n, b01_0, b01_1]
  exact loop 0 (Nat.zero_le _) _
/-- does a STEP READ a BUFFER -/
def mRdB (P : Nat → Nat → Int32) (s b : Nat) : Bool := (fst1 (fun k => P 77 (4 * s + k) == nI b) (nRc P s) 0).isSome
set_option maxHeartbeats 4000000 in
theorem c160 (HM : KM h) {P : Nat → Nat → Int32} (hP : pv h = P) {s b : Nat} (hs : s < nS P) (V : okP P) : aM d 160 [.ref 65, .int (nI s), .int (nI b)] h Q = Q (some (.int (zB (mRdB P s b)))) h := by
  subst hP
  obtain ⟨V0, -, V, -⟩ := V
  obtain ⟨-, -, -, V1, V2⟩ := V s hs
  have hs10 : s < 10 := by have := V0.2; unfold nS at hs; omega
  obtain ⟨T, hT, eT⟩ := bn_of V1
  unfold mRdB nRc
  simp only [pv_76, pv_77] at eT V2 ⊢
  rw [eT, ix_nI (by omega)] at V2 ⊢
  have loop := for_dn (F := fun k => aW d 160 2 [.ref 65, .int (nI s), .int (nI b), .int (nI k)] [] h Q) (R := fun k => Q (some (.int (zB ((fst1 (fun k => gI h 77 (4 * s + k) == nI b) (T - k) k).isSome)))) h) T (by
    rw [s160_2]
    simp only [s160_0, s160_1, s160_3, s160_4, s160_7, s160_8, s160_9, s160_12, s160_13, s160_16, s160_17, s160_18, s160_19, s160_20, s160_21, s160_22, s160_23, s160_26, s160_27, s160_28, s160_31, s160_34, s160_35, ai_76 HM, ai_77 HM, gr_65_13 HM, gr_65_14 HM, gt_65 HM, am160, isRf_ref, true_and, and_true, aPs_s, aPs_n, b01_0, b01_1]
    simp (disch := omega) only [nI_clamp, ix_nI, inb_nI, lt_nI, eq_nI, nn_nI, eq0_nI, pk_mul, nI_add, lt_T, lt_F, if_true, if_false, true_and, and_true, neg1_nI, neg1_lt, neg1_neg, lt_neg1, eqN_F, eq_self, eT, fst1_end, Option.isSome_none, zB_f]) (fun k hk ih => by
    rw [s160_2]
    simp only [s160_0, s160_1, s160_3, s160_4, s160_7, s160_8, s160_9, s160_12, s160_13, s160_16, s160_17, s160_18, s160_19, s160_20, s160_21, s160_22, s160_23, s160_26, s160_27, s160_28, s160_31, s160_34, s160_35, ai_76 HM, ai_77 HM, gr_65_13 HM, gr_65_14 HM, gt_65 HM, am160, isRf_ref, true_and, and_true, aPs_s, aPs_n, b01_0, b01_1]
    simp (disch := omega) only [nI_clamp, ix_nI, inb_nI, lt_nI, eq_nI, nn_nI, eq0_nI, pk_mul, nI_add, lt_T, lt_F, if_true, if_false, true_and, and_true, neg1_nI, neg1_lt, neg1_neg, lt_neg1, eqN_F, eq_self, eT]
    rw [ih, fst1_step hk]
    by_cases e : gI h 77 (4 * s + k) = nI b
    · simp only [e, beq_self_eq_true, if_true, Option.isSome_some, zB_t]
    · simp only [beq_eq_false_iff_ne.mpr e, e, if_false, Bool.false_eq_true])
  simp only [s160_0, s160_1, s160_3, s160_4, s160_7, s160_8, s160_9, s160_12, s160_13, s160_16, s160_17, s160_18, s160_19, s160_20, s160_21, s160_22, s160_23, s160_26, s160_27, s160_28, s160_31, s160_34, s160_35, ai_76 HM, ai_77 HM, gr_65_13 HM, gr_65_14 HM, gt_65 HM, am160, isRf_ref, true_and, and_true, aPs_s, aPs_n, b01_0, b01_1]
  exact loop 0 (Nat.zero_le _)
/-- which STEP WRITES a BUFFER -/
def mWr (P : Nat → Nat → Int32) (b : Nat) : Option Nat := fst1 (fun s => P 75 s == nI b) (nS P) 0
set_option maxHeartbeats 4000000 in
theorem c161 (HM : KM h) {P : Nat → Nat → Int32} (hP : pv h = P) {b : Nat} (V : okP P) : aM d 161 [.ref 65, .int (nI b)] h Q = Q (some (.int (oI (mWr P b)))) h := by
  subst hP
  obtain ⟨V0, -, V, -⟩ := V
  obtain ⟨T, hT, eT⟩ := bn_of V0
  unfold mWr nS
  simp only [pv_65, pv_75] at eT ⊢
  rw [eT, ix_nI (by omega)]
  have loop := for_dn (F := fun k => aW d 161 2 [.ref 65, .int (nI b), .int (nI k)] [] h Q) (R := fun k => Q (some (.int (oI (fst1 (fun s => gI h 75 s == nI b) (T - k) k)))) h) T (by
    rw [s161_2]
    simp only [s161_0, s161_1, s161_3, s161_4, s161_7, s161_10, s161_11, s161_14, s161_15, s161_16, s161_17, s161_20, s161_21, s161_22, s161_25, s161_28, s161_29, ai_75 HM, gr_65_12 HM, gt_65 HM, am161, isRf_ref, true_and, and_true, aPs_s, aPs_n, b01_0, b01_1]
    simp (disch := omega) only [nI_clamp, ix_nI, inb_nI, lt_nI, eq_nI, nn_nI, eq0_nI, pk_mul, nI_add, lt_T, lt_F, if_true, if_false, true_and, and_true, neg1_nI, neg1_lt, neg1_neg, lt_neg1, eqN_F, eq_self, eT, fst1_end, oI]) (fun k hk ih => by
    rw [s161_2]
    simp only [s161_0, s161_1, s161_3, s161_4, s161_7, s161_10, s161_11, s161_14, s161_15, s161_16, s161_17, s161_20, s161_21, s161_22, s161_25, s161_28, s161_29, ai_75 HM, gr_65_12 HM, gt_65 HM, am161, isRf_ref, true_and, and_true, aPs_s, aPs_n, b01_0, b01_1]
    simp (disch := omega) only [nI_clamp, ix_nI, inb_nI, lt_nI, eq_nI, nn_nI, eq0_nI, pk_mul, nI_add, lt_T, lt_F, if_true, if_false, true_and, and_true, neg1_nI, neg1_lt, neg1_neg, lt_neg1, eqN_F, eq_self, eT]
    rw [ih, fst1_step hk]
    by_cases e : gI h 75 k = nI b
    · simp only [e, beq_self_eq_true, if_true, oI]
    · simp only [beq_eq_false_iff_ne.mpr e, e, if_false, Bool.false_eq_true])
  simp only [s161_0, s161_1, s161_3, s161_4, s161_7, s161_10, s161_11, s161_14, s161_15, s161_16, s161_17, s161_20, s161_21, s161_22, s161_25, s161_28, s161_29, ai_75 HM, gr_65_12 HM, gt_65 HM, am161, isRf_ref, true_and, and_true, aPs_s, aPs_n, b01_0, b01_1]
  exact loop 0 (Nat.zero_le _)
end M1
