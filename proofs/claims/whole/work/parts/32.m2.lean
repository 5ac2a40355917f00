/-! THE REFERENCE'S PROGRAM: readiness, lives -/
/-- the first numbers of a row as told, the rest as before -/
def pre (g : Nat → Int32) (n : Nat) (f : Nat → Int32) : Nat → Int32 := fun j => if j < n then g j else f j
theorem pre_0 {g f : Nat → Int32} : pre g 0 f = f := by funext j; simp [pre]
theorem pre_in {g f : Nat → Int32} {n j : Nat} (h : j < n) : pre g n f j = g j := if_pos h
theorem pre_out {g f : Nat → Int32} {n j : Nat} (h : ¬ j < n) : pre g n f j = f j := if_neg h
theorem pre_upd {g f : Nat → Int32} {n : Nat} : upd (pre g n f) n (g n) = pre g (n + 1) f := by
  funext j
  unfold upd pre
  by_cases h1 : j = n
  · subst h1; simp
  · rw [if_neg h1]
    by_cases h2 : j < n
    · rw [if_pos h2, if_pos (by omega)]
    · rw [if_neg h2, if_neg (by omega)]
theorem pI_pA {h : abH} {o k : Nat} {f : Nat → Int32} {v : Int32} : pI (pA h o f) o k v = pA h o (upd f k v) := by
  unfold pI pA gI
  simp only [if_true]
  congr 1
  congr 1
  funext o'
  split <;> rfl
theorem pA_pA {h : abH} {o : Nat} {f g : Nat → Int32} : pA (pA h o f) o g = pA h o g := by
  unfold pA
  congr 1
  congr 1
  funext o'
  simp only
  split <;> rfl
theorem pA_comm {h : abH} {o o2 : Nat} {f g : Nat → Int32} (hn : o ≠ o2) : pA (pA h o f) o2 g = pA (pA h o2 g) o f := by
  unfold pA
  congr 1
  congr 1
  funext o'
  simp only
  by_cases h1 : o' = o2
  · subst h1
    rw [if_pos rfl, if_neg (Ne.symm hn), if_pos rfl]
  · rw [if_neg h1, if_neg h1]
theorem pI_def {h : abH} {o k : Nat} {v : Int32} : pI h o k v = pA h o (upd (gI h o) k v) := rfl
theorem pA_self {h : abH} {o : Nat} : pA h o (gI h o) = h := by
  unfold pA gI
  obtain ⟨a, b, c⟩ := h
  simp only
  congr 1
  congr 1
  funext o'
  split
  · rename_i e; rw [e]
  · rfl
def mRs (P : Nat → Nat → Int32) (s : Nat) : Nat → Int32
  | 0 => nI 0
  | k + 1 => mRs P s k + mSize P (nRd P s k)
def mScr (P : Nat → Nat → Int32) (s : Nat) : Int32 := kScr (P 73 s) (mRs P s (nRc P s)) (mSize P (nWt P s))
/-- a STEP is READY behind a set of STEPS -/
def mRdy (P : Nat → Nat → Int32) (s D : Nat) : Bool := !tb D s && (fst1 (fun k => match mWr P (nRd P s k) with | some w => !tb D w | none => false) (nRc P s) 0).isNone
def mNd (P : Nat → Nat → Int32) (b D : Nat) : Bool := (fst1 (fun s => !tb D s && mRdB P s b) (nS P) 0).isSome
theorem fst1_lt {p : Nat → Bool} : ∀ {n k j : Nat}, fst1 p n k = some j → k ≤ j ∧ j < k + n ∧ p j = true ∧ ∀ i, k ≤ i → i < j → p i = false := by
  intro n
  induction n with
  | zero => intro k j h; cases h
  | succ n ih =>
    intro k j h
    rw [fst1] at h
    split at h
    · rename_i hp
      cases h
      exact ⟨Nat.le_refl _, by omega, hp, fun i h1 h2 => by omega⟩
    · rename_i hp
      obtain ⟨a1, a2, a3, a4⟩ := ih h
      refine ⟨by omega, by omega, a3, fun i h1 h2 => ?_⟩
      by_cases hi : i = k
      · subst hi; simpa using hp
      · exact a4 i (by omega) h2
theorem fst1_none {p : Nat → Bool} : ∀ {n k : Nat}, fst1 p n k = none ↔ ∀ i, k ≤ i → i < k + n → p i = false := by
  intro n
  induction n with
  | zero => intro k; rw [fst1]; exact ⟨fun _ i h1 h2 => by omega, fun _ => rfl⟩
  | succ n ih =>
    intro k
    rw [fst1]
    split
    · rename_i hp
      refine ⟨(fun h => by cases h), fun h => ?_⟩
      have := h k (Nat.le_refl _) (by omega)
      rw [hp] at this
      cases this
    · rename_i hp
      rw [ih]
      refine ⟨fun h i h1 h2 => ?_, fun h i h1 h2 => h i (by omega) (by omega)⟩
      by_cases hi : i = k
      · subst hi; simpa using hp
      · exact h i (by omega) (by omega)
theorem okP.s {P : Nat → Nat → Int32} (V : okP P) : nS P ≤ 10 ∧ P 65 4 = nI (nS P) := by
  have h := V.1.2
  exact ⟨by unfold nS; omega, V.1.1⟩
theorem okP.k {P : Nat → Nat → Int32} (V : okP P) {s : Nat} (hs : s < nS P) : P 73 s = nI (ix (P 73 s)) ∧ ix (P 73 s) < 6 := (V.2.2.1 s hs).1
theorem okP.w {P : Nat → Nat → Int32} (V : okP P) {s : Nat} (hs : s < nS P) : P 75 s = nI (nWt P s) ∧ nWt P s < 12 := (V.2.2.1 s hs).2.2.1
theorem okP.c {P : Nat → Nat → Int32} (V : okP P) {s : Nat} (hs : s < nS P) : P 76 s = nI (nRc P s) ∧ nRc P s ≤ 4 := ⟨(V.2.2.1 s hs).2.2.2.1.1, by have := (V.2.2.1 s hs).2.2.2.1.2; unfold nRc; omega⟩
theorem okP.r {P : Nat → Nat → Int32} (V : okP P) {s k : Nat} (hs : s < nS P) (hk : k < nRc P s) : P 77 (4 * s + k) = nI (nRd P s k) ∧ nRd P s k < 12 := (V.2.2.1 s hs).2.2.2.2 k hk
theorem mWr_lt {P : Nat → Nat → Int32} {b w : Nat} (h : mWr P b = some w) : w < nS P := by
  have := (fst1_lt h).2.1
  omega
section M2
variable {d : Nat} {h : abH} {Q : Option Value → abH → Prop}
set_option maxHeartbeats 4000000 in
theorem c159 (HM : KM h) {P : Nat → Nat → Int32} (hP : pv h = P) {s : Nat} (hs : s < nS P) (V : okP P) : aM (d + 1) 159 [.ref 65, .int (nI s)] h Q = Q (some (.int (mScr P s))) h := by
  subst hP
  have s10 := V.s.1
  obtain ⟨c1, c2⟩ := V.c hs
  obtain ⟨w1, w2⟩ := V.w hs
  have loop := for_0 (F := fun k => aW (d + 1) 159 4 [.ref 65, .int (nI s), .int (mRs (pv h) s k), .int (nI k)] [] h Q) (R := Q (some (.int (mScr (pv h) s))) h) (nRc (pv h) s) (by
    rw [s159_4]
    simp only [s159_0, s159_1, s159_2, s159_3, s159_5, s159_6, s159_9, s159_10, s159_11, s159_14, s159_15, s159_16, s159_17, s159_20, s159_21, s159_22, s159_23, s159_24, s159_25, s159_26, s159_29, s159_30, s159_31, s159_34, s159_37, s159_38, s159_41, s159_42, s159_43, s159_44, s159_45, s159_46, s159_49, s159_50, s159_51, s159_54, s159_57, ai_73 HM, ai_75 HM, ai_76 HM, ai_77 HM, gr_65_10 HM, gr_65_12 HM, gr_65_13 HM, gr_65_14 HM, gt_65 HM, am159, isRf_ref, true_and, and_true, aPs_s, aPs_n, b01_0, b01_1, ← pv_73, ← pv_75, ← pv_76, ← pv_77]
    simp (disch := omega) only [nI_clamp, ix_nI, inb_nI, lt_nI, eq_nI, nn_nI, eq0_nI, pk_mul, nI_add, lt_T, lt_F, if_true, if_false, true_and, and_true, neg1_nI, neg1_lt, neg1_neg, lt_neg1, eqN_F, eq_self, c1, w1, c154 HM rfl w2 V, isRf_ref, true_and, and_true, aPs_s, aPs_n, b01_0, b01_1]
    simp only [s159_0, s159_1, s159_2, s159_3, s159_5, s159_6, s159_9, s159_10, s159_11, s159_14, s159_15, s159_16, s159_17, s159_20, s159_21, s159_22, s159_23, s159_24, s159_25, s159_26, s159_29, s159_30, s159_31, s159_34, s159_37, s159_38, s159_41, s159_42, s159_43, s159_44, s159_45, s159_46, s159_49, s159_50, s159_51, s159_54, s159_57, ai_73 HM, ai_75 HM, ai_76 HM, ai_77 HM, gr_65_10 HM, gr_65_12 HM, gr_65_13 HM, gr_65_14 HM, gt_65 HM, am159, isRf_ref, true_and, and_true, aPs_s, aPs_n, b01_0, b01_1, c156]
    rfl) (fun k hk => by
    obtain ⟨r1, r2⟩ := V.r hs hk
    rw [s159_4]
    simp only [s159_0, s159_1, s159_2, s159_3, s159_5, s159_6, s159_9, s159_10, s159_11, s159_14, s159_15, s159_16, s159_17, s159_20, s159_21, s159_22, s159_23, s159_24, s159_25, s159_26, s159_29, s159_30, s159_31, s159_34, s159_37, s159_38, s159_41, s159_42, s159_43, s159_44, s159_45, s159_46, s159_49, s159_50, s159_51, s159_54, s159_57, ai_73 HM, ai_75 HM, ai_76 HM, ai_77 HM, gr_65_10 HM, gr_65_12 HM, gr_65_13 HM, gr_65_14 HM, gt_65 HM, am159, isRf_ref, true_and, and_true, aPs_s, aPs_n, b01_0, b01_1, ← pv_73, ← pv_75, ← pv_76, ← pv_77]
    simp (disch := omega) only [nI_clamp, ix_nI, inb_nI, lt_nI, eq_nI, nn_nI, eq0_nI, pk_mul, nI_add, lt_T, lt_F, if_true, if_false, true_and, and_true, neg1_nI, neg1_lt, neg1_neg, lt_neg1, eqN_F, eq_self, c1, r1, c154 HM rfl r2 V, isRf_ref, true_and, and_true, aPs_s, aPs_n, b01_0, b01_1]
    simp only [s159_0, s159_1, s159_2, s159_3, s159_5, s159_6, s159_9, s159_10, s159_11, s159_14, s159_15, s159_16, s159_17, s159_20, s159_21, s159_22, s159_23, s159_24, s159_25, s159_26, s159_29, s159_30, s159_31, s159_34, s159_37, s159_38, s159_41, s159_42, s159_43, s159_44, s159_45, s159_46, s159_49, s159_50, s159_51, s159_54, s159_57, ai_73 HM, ai_75 HM, ai_76 HM, ai_77 HM, gr_65_10 HM, gr_65_12 HM, gr_65_13 HM, gr_65_14 HM, gt_65 HM, am159, isRf_ref, true_and, and_true, aPs_s, aPs_n, b01_0, b01_1]
    simp (disch := omega) only [nI_clamp, ix_nI, inb_nI, lt_nI, eq_nI, nn_nI, eq0_nI, pk_mul, nI_add, lt_T, lt_F, if_true, if_false, true_and, and_true, neg1_nI, neg1_lt, neg1_neg, lt_neg1, eqN_F, eq_self, mRs])
  simp only [s159_0, s159_1, s159_2, s159_3, s159_5, s159_6, s159_9, s159_10, s159_11, s159_14, s159_15, s159_16, s159_17, s159_20, s159_21, s159_22, s159_23, s159_24, s159_25, s159_26, s159_29, s159_30, s159_31, s159_34, s159_37, s159_38, s159_41, s159_42, s159_43, s159_44, s159_45, s159_46, s159_49, s159_50, s159_51, s159_54, s159_57, ai_73 HM, ai_75 HM, ai_76 HM, ai_77 HM, gr_65_10 HM, gr_65_12 HM, gr_65_13 HM, gr_65_14 HM, gt_65 HM, am159, isRf_ref, true_and, and_true, aPs_s, aPs_n, b01_0, b01_1]
  exact loop
set_option maxHeartbeats 4000000 in
theorem c162 (HM : KM h) {P : Nat → Nat → Int32} (hP : pv h = P) {s D : Nat} (hs : s < nS P) (hD : D < 1024) (V : okP P) : aM (d + 1) 162 [.ref 65, .int (nI s), .int (nI D)] h Q = Q (some (.int (zB (mRdy P s D)))) h := by
  subst hP
  have s10 := V.s.1
  obtain ⟨c1, c2⟩ := V.c hs
  have loop := for_ds (σ := Value) (F := fun k l4 => aW (d + 1) 162 13 [.ref 65, .int (nI s), .int (nI D), .int (nI k), l4] [] h Q) (R := fun k => Q (some (.int (zB (fst1 (fun k => match mWr (pv h) (nRd (pv h) s k) with | some w => !tb D w | none => false) (nRc (pv h) s - k) k).isNone))) h) (nRc (pv h) s) (fun l4 => by
    rw [s162_13]
    simp only [s162_0, s162_1, s162_2, s162_3, s162_4, s162_5, s162_6, s162_9, s162_10, s162_11, s162_12, s162_14, s162_15, s162_18, s162_19, s162_20, s162_23, s162_24, s162_25, s162_28, s162_29, s162_30, s162_31, s162_32, s162_33, s162_34, s162_37, s162_39, s162_41, s162_42, s162_45, s162_46, s162_48, s162_51, s162_52, s162_55, s162_57, s162_58, s162_59, s162_60, s162_63, s162_64, s162_65, s162_68, s162_71, s162_72, ai_76 HM, ai_77 HM, gr_65_13 HM, gr_65_14 HM, gt_65 HM, am162, isRf_ref, true_and, and_true, aPs_s, aPs_n, b01_0, b01_1, ← pv_76, ← pv_77]
    simp (disch := omega) only [nI_clamp, ix_nI, inb_nI, lt_nI, eq_nI, nn_nI, eq0_nI, pk_mul, nI_add, lt_T, lt_F, if_true, if_false, true_and, and_true, neg1_nI, neg1_lt, neg1_neg, lt_neg1, eqN_F, eq_self, c1, fst1_end, Option.isNone_none, zB_t]) (fun k hk ih l4 => by
    obtain ⟨r1, r2⟩ := V.r hs hk
    rw [s162_13]
    simp only [s162_0, s162_1, s162_2, s162_3, s162_4, s162_5, s162_6, s162_9, s162_10, s162_11, s162_12, s162_14, s162_15, s162_18, s162_19, s162_20, s162_23, s162_24, s162_25, s162_28, s162_29, s162_30, s162_31, s162_32, s162_33, s162_34, s162_37, s162_39, s162_41, s162_42, s162_45, s162_46, s162_48, s162_51, s162_52, s162_55, s162_57, s162_58, s162_59, s162_60, s162_63, s162_64, s162_65, s162_68, s162_71, s162_72, ai_76 HM, ai_77 HM, gr_65_13 HM, gr_65_14 HM, gt_65 HM, am162, isRf_ref, true_and, and_true, aPs_s, aPs_n, b01_0, b01_1, ← pv_76, ← pv_77]
    simp (disch := omega) only [nI_clamp, ix_nI, inb_nI, lt_nI, eq_nI, nn_nI, eq0_nI, pk_mul, nI_add, lt_T, lt_F, if_true, if_false, true_and, and_true, neg1_nI, neg1_lt, neg1_neg, lt_neg1, eqN_F, eq_self, c1, r1, c161 HM rfl V, isRf_ref, true_and, and_true, aPs_s, aPs_n, b01_0, b01_1]
    simp only [s162_0, s162_1, s162_2, s162_3, s162_4, s162_5, s162_6, s162_9, s162_10, s162_11, s162_12, s162_14, s162_15, s162_18, s162_19, s162_20, s162_23, s162_24, s162_25, s162_28, s162_29, s162_30, s162_31, s162_32, s162_33, s162_34, s162_37, s162_39, s162_41, s162_42, s162_45, s162_46, s162_48, s162_51, s162_52, s162_55, s162_57, s162_58, s162_59, s162_60, s162_63, s162_64, s162_65, s162_68, s162_71, s162_72, ai_76 HM, ai_77 HM, gr_65_13 HM, gr_65_14 HM, gt_65 HM, am162, isRf_ref, true_and, and_true, aPs_s, aPs_n, b01_0, b01_1]
    rw [fst1_step hk]
    cases hw : mWr (pv h) (nRd (pv h) s k) with
    | none =>
      simp (disch := omega) only [oI, nI_clamp, ix_nI, inb_nI, lt_nI, eq_nI, nn_nI, eq0_nI, pk_mul, nI_add, lt_T, lt_F, if_true, if_false, true_and, and_true, neg1_nI, neg1_lt, neg1_neg, lt_neg1, eqN_F, eq_self, ih, Bool.false_eq_true]
    | some w =>
      have hw2 := mWr_lt hw
      simp (disch := omega) only [oI, nI_clamp, ix_nI, inb_nI, lt_nI, eq_nI, nn_nI, eq0_nI, pk_mul, nI_add, lt_T, lt_F, if_true, if_false, true_and, and_true, neg1_nI, neg1_lt, neg1_neg, lt_neg1, eqN_F, eq_self, ih, bit_0]
      rcases Bool.eq_false_or_eq_true (tb D w) with htb | htb <;> simp only [htb, Bool.not_false, Bool.not_true, Bool.true_and, Bool.false_and, Bool.and_true, Bool.and_false, Bool.or_true, Bool.or_false, Bool.true_or, Bool.false_or, Bool.true_eq_false, Bool.false_eq_true, if_true, if_false, Option.isSome_some, Option.isSome_none, Option.isNone_some, Option.isNone_none, zB_t, zB_f, nI1_0, nI0_0])
  simp only [s162_0, s162_1, s162_2, s162_3, s162_4, s162_5, s162_6, s162_9, s162_10, s162_11, s162_12, s162_14, s162_15, s162_18, s162_19, s162_20, s162_23, s162_24, s162_25, s162_28, s162_29, s162_30, s162_31, s162_32, s162_33, s162_34, s162_37, s162_39, s162_41, s162_42, s162_45, s162_46, s162_48, s162_51, s162_52, s162_55, s162_57, s162_58, s162_59, s162_60, s162_63, s162_64, s162_65, s162_68, s162_71, s162_72, ai_76 HM, ai_77 HM, gr_65_13 HM, gr_65_14 HM, gt_65 HM, am162, isRf_ref, true_and, and_true, aPs_s, aPs_n, b01_0, b01_1]
  simp (disch := omega) only [bit_1]
  unfold mRdy
  rcases Bool.eq_false_or_eq_true (tb D s) with htb | htb
  · simp only [htb, Bool.not_false, Bool.not_true, Bool.true_and, Bool.false_and, Bool.and_true, Bool.and_false, Bool.or_true, Bool.or_false, Bool.true_or, Bool.false_or, Bool.true_eq_false, Bool.false_eq_true, if_true, if_false, Option.isSome_some, Option.isSome_none, Option.isNone_some, Option.isNone_none, zB_t, zB_f, nI1_0, nI0_0]
  · simp only [htb, Bool.not_false, Bool.not_true, Bool.true_and, Bool.false_and, Bool.and_true, Bool.and_false, Bool.or_true, Bool.or_false, Bool.true_or, Bool.false_or, Bool.true_eq_false, Bool.false_eq_true, if_true, if_false, Option.isSome_some, Option.isSome_none, Option.isNone_some, Option.isNone_none, zB_t, zB_f, nI1_0, nI0_0]
    exact loop 0 (Nat.zero_le _) _
set_option maxHeartbeats 4000000 in
theorem c176 (HM : KM h) {P : Nat → Nat → Int32} (hP : pv h = P) {b D : Nat} (hD : D < 1024) (V : okP P) : aM (d + 1) 176 [.ref 65, .int (nI b), .int (nI D)] h Q = Q (some (.int (zB (mNd P b D)))) h := by
  subst hP
  obtain ⟨s10, e10⟩ := V.s
  have loop := for_dn (F := fun k => aW (d + 1) 176 2 [.ref 65, .int (nI b), .int (nI D), .int (nI k)] [] h Q) (R := fun k => Q (some (.int (zB (fst1 (fun s => !tb D s && mRdB (pv h) s b) (nS (pv h) - k) k).isSome))) h) (nS (pv h)) (by
    rw [s176_2]
    simp only [s176_0, s176_1, s176_3, s176_4, s176_7, s176_10, s176_11, s176_12, s176_13, s176_14, s176_15, s176_18, s176_19, s176_20, s176_21, s176_24, s176_27, s176_28, s176_29, s176_32, s176_35, s176_36, gt_65 HM, am176, isRf_ref, true_and, and_true, aPs_s, aPs_n, b01_0, b01_1, ← pv_65]
    simp (disch := omega) only [nI_clamp, ix_nI, inb_nI, lt_nI, eq_nI, nn_nI, eq0_nI, pk_mul, nI_add, lt_T, lt_F, if_true, if_false, true_and, and_true, neg1_nI, neg1_lt, neg1_neg, lt_neg1, eqN_F, eq_self, e10, fst1_end, Option.isSome_none, zB_f]) (fun k hk ih => by
    rw [s176_2]
    simp only [s176_0, s176_1, s176_3, s176_4, s176_7, s176_10, s176_11, s176_12, s176_13, s176_14, s176_15, s176_18, s176_19, s176_20, s176_21, s176_24, s176_27, s176_28, s176_29, s176_32, s176_35, s176_36, gt_65 HM, am176, isRf_ref, true_and, and_true, aPs_s, aPs_n, b01_0, b01_1, ← pv_65]
    simp (disch := omega) only [nI_clamp, ix_nI, inb_nI, lt_nI, eq_nI, nn_nI, eq0_nI, pk_mul, nI_add, lt_T, lt_F, if_true, if_false, true_and, and_true, neg1_nI, neg1_lt, neg1_neg, lt_neg1, eqN_F, eq_self, e10, bit_0, c160 HM rfl hk V, isRf_ref, true_and, and_true, aPs_s, aPs_n, b01_0, b01_1]
    simp only [s176_0, s176_1, s176_3, s176_4, s176_7, s176_10, s176_11, s176_12, s176_13, s176_14, s176_15, s176_18, s176_19, s176_20, s176_21, s176_24, s176_27, s176_28, s176_29, s176_32, s176_35, s176_36, gt_65 HM, am176, isRf_ref, true_and, and_true, aPs_s, aPs_n, b01_0, b01_1]
    simp (disch := omega) only [nI_clamp, ix_nI, inb_nI, lt_nI, eq_nI, nn_nI, eq0_nI, pk_mul, nI_add, lt_T, lt_F, if_true, if_false, true_and, and_true, neg1_nI, neg1_lt, neg1_neg, lt_neg1, eqN_F, eq_self]
    rw [ih, fst1_step hk]
    rcases Bool.eq_false_or_eq_true (tb D k) with h1 | h1 <;> rcases Bool.eq_false_or_eq_true (mRdB (pv h) k b) with h2 | h2 <;> simp only [h1, h2, Bool.not_false, Bool.not_true, Bool.true_and, Bool.false_and, Bool.and_true, Bool.and_false, Bool.or_true, Bool.or_false, Bool.true_or, Bool.false_or, Bool.true_eq_false, Bool.false_eq_true, if_true, if_false, Option.isSome_some, Option.isSome_none, Option.isNone_some, Option.isNone_none, zB_t, zB_f, nI1_0, nI0_0])
  simp only [s176_0, s176_1, s176_3, s176_4, s176_7, s176_10, s176_11, s176_12, s176_13, s176_14, s176_15, s176_18, s176_19, s176_20, s176_21, s176_24, s176_27, s176_28, s176_29, s176_32, s176_35, s176_36, gt_65 HM, am176, isRf_ref, true_and, and_true, aPs_s, aPs_n, b01_0, b01_1]
  exact loop 0 (Nat.zero_le _)
end M2
