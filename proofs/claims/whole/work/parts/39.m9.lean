/-! ARGUMENTS, FRAMES -/
theorem nI_nonneg {k : Int32} (h : ¬ k < 0) : k = nI k.toInt.toNat ∧ k.toInt.toNat < 2 ^ 31 := by
  have h0 : (0 : Int32).toInt = 0 := by decide
  rw [Int32.lt_iff_toInt_lt, h0] at h
  have h1 := Int32.toInt_lt k
  have h2 : k.toInt.toNat < 2 ^ 31 := by omega
  refine ⟨?_, h2⟩
  apply Int32.toInt_inj.mp
  rw [nI_toInt h2]
  omega
def plc (k : Int32) (n : Nat) : Option Nat := if k < 0 then none else if k.toInt.toNat < n then some k.toInt.toNat else none
theorem plc_nI {j n : Nat} (h : j < n) (hn : n ≤ 2 ^ 31) : plc (nI j) n = some j := by
  unfold plc
  have e : (nI j).toInt.toNat = j := by rw [nI_toInt (by omega)]; omega
  simp only [nn_nI (show j < 2 ^ 31 by omega), if_false, e, h, if_true]
theorem hi_T {k : Int32} {m : Nat} (hm : m + 1 < 2 ^ 31) (h : ¬ k < nI (m + 1)) : nI m < k := by
  rw [Int32.lt_iff_toInt_lt, nI_toInt hm] at h
  rw [Int32.lt_iff_toInt_lt, nI_toInt (by omega)]
  omega
theorem hi_n {k : Int32} {n : Nat} (hn : n < 2 ^ 31) (h0 : ¬ k < 0) (h : ¬ k < nI n) : nI n - nI 1 < k := by
  cases n with
  | zero =>
    have e : nI 0 - nI 1 = -1 := by decide
    rw [e, (nI_nonneg h0).1, neg1_lt (nI_nonneg h0).2]
    trivial
  | succ n =>
    rw [pk_sub (by omega)]
    exact hi_T hn h
/-- an argument that is to be one of the first n numbers -/
theorem plc_cases (k : Int32) (n : Nat) (hn : n < 2 ^ 31) : (∃ j, j < n ∧ k = nI j ∧ plc k n = some j) ∨ (plc k n = none ∧ (k < 0) = True ∧ (k < nI 0) = True) ∨ (plc k n = none ∧ (k < 0) = False ∧ (k < nI 0) = False ∧ (k < nI n) = False ∧ (nI n - nI 1 < k) = True) := by
  by_cases h0 : k < 0
  · refine Or.inr (Or.inl ⟨by unfold plc; rw [if_pos h0], eq_true h0, eq_true (by rw [nI_0]; exact h0)⟩)
  · obtain ⟨e1, e2⟩ := nI_nonneg h0
    by_cases h1 : k.toInt.toNat < n
    · exact Or.inl ⟨_, h1, e1, by unfold plc; rw [if_neg h0, if_pos h1]⟩
    · have h2 : ¬ k < nI n := by rw [e1, lt_nI e2 hn]; exact h1
      exact Or.inr (Or.inr ⟨by unfold plc; rw [if_neg h0, if_neg h1], eq_false h0, eq_false (by rw [nI_0]; exact h0), eq_false h2, eq_true (hi_n hn h0 h2)⟩)
def scr (o : Nat) : Bool := decide (79 ≤ o ∧ o ≤ 87 ∨ 97 ≤ o ∧ o ≤ 103)
/-- what the reference's own scratch leaves -/
def Fm (h h' : abH) : Prop := h'.1 = h.1 ∧ h'.2.2 = h.2.2 ∧ (∀ o, scr o = false → o ≠ 65 → gI h' o = gI h o) ∧ ∀ k, k ≠ 15 → k ≠ 45 → k ≠ 53 → gI h' 65 k = gI h 65 k
theorem Fm_refl {h : abH} : Fm h h := ⟨rfl, rfl, fun _ _ _ => rfl, fun _ _ _ _ => rfl⟩
theorem Fm_trans {h h' h'' : abH} (a : Fm h h') (b : Fm h' h'') : Fm h h'' :=
  ⟨b.1.trans a.1, b.2.1.trans a.2.1, fun o h1 h2 => (b.2.2.1 o h1 h2).trans (a.2.2.1 o h1 h2), fun k h1 h2 h3 => (b.2.2.2 k h1 h2 h3).trans (a.2.2.2 k h1 h2 h3)⟩
theorem Fm_pA {h : abH} {o : Nat} {f : Nat → Int32} (ho : scr o = true) : Fm h (pA h o f) := by
  refine ⟨rfl, rfl, fun o' h1 _ => ?_, fun k _ _ _ => ?_⟩
  · rw [gI_ne]
    intro e
    rw [e, ho] at h1
    cases h1
  · rw [gI_ne]
    intro e
    rw [← e] at ho
    cases ho
theorem Fm_pI {h : abH} {o k : Nat} {v : Int32} (ho : scr o = true) : Fm h (pI h o k v) := Fm_pA ho
theorem Fm_pS {h : abH} {k : Nat} {v : Int32} (hk : k = 15 ∨ k = 45 ∨ k = 53) : Fm h (pI h 65 k v) := by
  refine ⟨rfl, rfl, fun o' _ h2 => ?_, fun j h1 h2 h3 => ?_⟩
  · rw [pI_def, gI_ne h2]
  · rw [pI_def, gI_eq, upd_ne (by omega)]
theorem Fm_T {h h' : abH} (F : Fm h h') {o : Nat} : gT h' o = gT h o := by unfold gT; rw [F.1]
theorem Fm_R {h h' : abH} (F : Fm h h') {o k : Nat} : gR h' o k = gR h o k := by unfold gR; rw [F.2.1]
theorem Fm_KM {h h' : abH} (F : Fm h h') (HM : KM h) : KM h' := ⟨fun e he => by rw [Fm_T F]; exact HM.1 e he, fun e he => by rw [Fm_R F]; exact HM.2 e he⟩
theorem Fm_KC {h h' : abH} (F : Fm h h') (H : KC h) : KC h' := ⟨fun e he => by rw [Fm_T F]; exact H.1 e he, fun e he => by rw [Fm_R F]; exact H.2 e he⟩
theorem Fm_pv {h h' : abH} (F : Fm h h') : pv h' = pv h := by
  funext q
  unfold pv
  split
  · rename_i hq
    exact F.2.2.1 q (by unfold scr; exact decide_eq_false (by omega)) (by omega)
  · split
    · funext k
      split
      · rw [F.2.2.2 4 (by decide) (by decide) (by decide)]
      · rfl
    · rfl
/-- a told ORDER -/
def toH (h : abH) (P : Nat → Nat → Int32) (tl : Option (Nat → Nat)) : Prop := gI h 65 26 = zB tl.isSome ∧ ∀ f, tl = some f → ∀ k, k < nS P → gI h 88 k = nI (f k) ∧ f k < nS P
theorem Fm_to {h h' : abH} (F : Fm h h') {P : Nat → Nat → Int32} {tl : Option (Nat → Nat)} (T : toH h P tl) : toH h' P tl := by
  refine ⟨by rw [F.2.2.2 26 (by decide) (by decide) (by decide)]; exact T.1, fun f hf k hk => ?_⟩
  rw [F.2.2.1 88 (by decide) (by decide)]
  exact T.2 f hf k hk
/-- THE ORDER, if there is one -/
def oRD (P : Nat → Nat → Int32) (tl : Option (Nat → Nat)) : Option (Nat → Nat) := match mOr P tl (nS P) with
  | none => none
  | some x => some x.1
theorem oRD_lt {P : Nat → Nat → Int32} (V : okP P) {tl : Option (Nat → Nat)} (ht : ∀ f, tl = some f → ∀ k, k < nS P → f k < nS P) {o : Nat → Nat} (h : oRD P tl = some o) : ∀ k, k < nS P → o k < nS P := by
  unfold oRD at h
  cases hq : mOr P tl (nS P) with
  | none => rw [hq] at h; cases h
  | some x =>
    rw [hq] at h
    obtain ⟨o2, D⟩ := x
    cases h
    exact (mOr_ok V.s.1 ht (Nat.le_refl _) hq).2
section M9
variable {d : Nat} {h : abH} {Q : Option Value → abH → Prop}
theorem c163q (HM : KM h) {P : Nat → Nat → Int32} (hP : pv h = P) (V : okP P) {tl : Option (Nat → Nat)} (T : toH h P tl) (hQ : ∀ h', Fm h h' → (oRD P tl = none ∧ Q (some (.int (nI 0))) h' ∨ ∃ o, oRD P tl = some o ∧ (ovH h' P o → Q (some (.int (nI 1))) h'))) : aM (d + 2) 163 [.ref 65] h Q := by
  have hc := c163 (d := d) (Q := Q) HM hP V T.1 T.2
  cases hq : mOr P tl (nS P) with
  | none =>
    obtain ⟨A, hA⟩ := hc.1 hq
    rw [hA]
    rcases hQ (pA h 97 A) (Fm_pA (by decide)) with ⟨_, h2⟩ | ⟨o, h1, _⟩
    · exact h2
    · unfold oRD at h1; rw [hq] at h1; cases h1
  | some x =>
    obtain ⟨o, D⟩ := x
    rw [hc.2 o D hq]
    have F : Fm h (hLiv P (hOrd h o (nS P)) o 12) := Fm_trans (Fm_pA (by decide)) (Fm_trans (Fm_pA (by decide)) (Fm_pA (by decide)))
    rcases hQ _ F with ⟨h1, _⟩ | ⟨o2, h1, h2⟩
    · unfold oRD at h1; rw [hq] at h1; cases h1
    · unfold oRD at h1
      rw [hq] at h1
      cases h1
      refine h2 ⟨fun k hk => ?_, fun b hb => ?_⟩
      · unfold hLiv hOrd
        rw [gI_ne (by decide), gI_ne (by decide), gI_eq, pre_in hk]
        exact ⟨rfl, (mOr_ok V.s.1 (fun f hf k hk => (T.2 f hf k hk).2) (Nat.le_refl _) hq).2 k hk⟩
      · unfold hLiv
        rw [gI_ne (show 98 ≠ 99 by decide), gI_eq, gI_eq, pre_in hb, pre_in hb]
        exact ⟨rfl, rfl⟩
theorem c167 (HM : KM h) {P : Nat → Nat → Int32} (hP : pv h = P) (V : okP P) {k : Int32} : aM (d + 1) 167 [.ref 65, .int k] h Q = Q (some (.int (zB (plc k (nS P)).isSome))) h := by
  have s10 := V.s.1
  have e4 := hS hP V
  rcases plc_cases k (nS P) (by omega) with ⟨j, hj, rfl, e⟩ | ⟨e, e1, e2⟩ | ⟨e, e1, e2, e3, e5⟩
  · obtain ⟨n, hn⟩ : ∃ n, nS P = n + 1 := ⟨nS P - 1, by omega⟩
    rw [hn] at e4
    have e6 : nI (n + 1) - nI 1 = nI n := by rw [pk_sub (by omega), Nat.add_sub_cancel]
    simp (disch := first | omega | assumption | exact gt_65 HM | fail) only [s167_0, s167_1, s167_2, s167_3, s167_6, s167_7, s167_8, s167_11, gt_65 HM, am167, isRf_ref, true_and, and_true, aPs_s, aPs_n, b01_0, b01_1, nI_clamp, ix_nI, inb_nI, lt_nI, eq_nI, nn_nI, eq0_nI, pk_mul, nI_add, lt_T, lt_F, if_true, if_false, true_and, and_true, neg1_nI, neg1_lt, neg1_neg, lt_neg1, eqN_F, eq_self,  c139, e4, e, e6, Nat.not_lt_zero, show ¬ n < j by omega, not_false_eq_true, and_self, decide_true, Option.isSome_some, zB_b]
  · simp (disch := first | omega | assumption | exact gt_65 HM | fail) only [s167_0, s167_1, s167_2, s167_3, s167_6, s167_7, s167_8, s167_11, gt_65 HM, am167, isRf_ref, true_and, and_true, aPs_s, aPs_n, b01_0, b01_1, nI_clamp, ix_nI, inb_nI, lt_nI, eq_nI, nn_nI, eq0_nI, pk_mul, nI_add, lt_T, lt_F, if_true, if_false, true_and, and_true, neg1_nI, neg1_lt, neg1_neg, lt_neg1, eqN_F, eq_self,  c139, e4, e, e2, not_true_eq_false, false_and, decide_false, Option.isSome_none, zB_b]
  · simp (disch := first | omega | assumption | exact gt_65 HM | fail) only [s167_0, s167_1, s167_2, s167_3, s167_6, s167_7, s167_8, s167_11, gt_65 HM, am167, isRf_ref, true_and, and_true, aPs_s, aPs_n, b01_0, b01_1, nI_clamp, ix_nI, inb_nI, lt_nI, eq_nI, nn_nI, eq0_nI, pk_mul, nI_add, lt_T, lt_F, if_true, if_false, true_and, and_true, neg1_nI, neg1_lt, neg1_neg, lt_neg1, eqN_F, eq_self,  c139, e4, e, e2, e5, not_true_eq_false, and_false, decide_false, Option.isSome_none, zB_b]
set_option maxHeartbeats 4000000 in
theorem t168 (HM : KM h) {P : Nat → Nat → Int32} (hP : pv h = P) (V : okP P) {tl : Option (Nat → Nat)} (T : toH h P tl) {k : Int32} (hQ : ∀ h', Fm h h' → Q (some (.int (match plc k (nS P) with
    | none => -5
    | some j => match oRD P tl with
      | none => -3
      | some o => nI (o j)))) h') : aM (d + 3) 168 [.ref 65, .int k] h Q := by
  have s10 := V.s.1
  have c167' : ∀ Q', aM (d + 2) 167 [.ref 65, .int k] h Q' = Q' (some (.int (zB (plc k (nS P)).isSome))) h := fun Q' => c167 HM hP V
  simp (disch := first | omega | assumption | exact gt_65 HM | fail) only [s168_0, s168_1, s168_2, s168_5, s168_8, s168_10, s168_13, s168_14, s168_17, s168_20, s168_21, s168_24, s168_25, s168_26, s168_29, s168_31, ai_97 HM, gr_65_46 HM, gt_65 HM, am168, isRf_ref, true_and, and_true, aPs_s, aPs_n, b01_0, b01_1, nI_clamp, ix_nI, inb_nI, lt_nI, eq_nI, nn_nI, eq0_nI, pk_mul, nI_add, lt_T, lt_F, if_true, if_false, true_and, and_true, neg1_nI, neg1_lt, neg1_neg, lt_neg1, eqN_F, eq_self,  c167']
  rcases plc_cases k (nS P) (by omega) with ⟨j, hj, rfl, e⟩ | ⟨e, _⟩ | ⟨e, _⟩
  · simp (disch := first | omega | assumption | exact gt_65 HM | fail) only [s168_0, s168_1, s168_2, s168_5, s168_8, s168_10, s168_13, s168_14, s168_17, s168_20, s168_21, s168_24, s168_25, s168_26, s168_29, s168_31, ai_97 HM, gr_65_46 HM, gt_65 HM, am168, isRf_ref, true_and, and_true, aPs_s, aPs_n, b01_0, b01_1, nI_clamp, ix_nI, inb_nI, lt_nI, eq_nI, nn_nI, eq0_nI, pk_mul, nI_add, lt_T, lt_F, if_true, if_false, true_and, and_true, neg1_nI, neg1_lt, neg1_neg, lt_neg1, eqN_F, eq_self,  e, Bool.not_false, Bool.not_true, Bool.true_and, Bool.false_and, Bool.and_true, Bool.and_false, Bool.or_true, Bool.or_false, Bool.true_or, Bool.false_or, Bool.true_eq_false, Bool.false_eq_true, if_true, if_false, Option.isSome_some, Option.isSome_none, Option.isNone_some, Option.isNone_none, zB_t, zB_f, nI1_0, nI0_0]
    rw [e] at hQ
    refine c163q HM hP V T (fun h' F => ?_)
    have HM2 := Fm_KM F HM
    cases hq : oRD P tl with
    | none =>
      rw [hq] at hQ
      refine Or.inl ⟨rfl, ?_⟩
      simp (disch := first | omega | assumption | exact gt_65 HM2 | fail) only [s168_0, s168_1, s168_2, s168_5, s168_8, s168_10, s168_13, s168_14, s168_17, s168_20, s168_21, s168_24, s168_25, s168_26, s168_29, s168_31, ai_97 HM2, gr_65_46 HM2, gt_65 HM2, am168, isRf_ref, true_and, and_true, aPs_s, aPs_n, b01_0, b01_1, nI_clamp, ix_nI, inb_nI, lt_nI, eq_nI, nn_nI, eq0_nI, pk_mul, nI_add, lt_T, lt_F, if_true, if_false, true_and, and_true, neg1_nI, neg1_lt, neg1_neg, lt_neg1, eqN_F, eq_self,  Bool.not_false, Bool.not_true, Bool.true_and, Bool.false_and, Bool.and_true, Bool.and_false, Bool.or_true, Bool.or_false, Bool.true_or, Bool.false_or, Bool.true_eq_false, Bool.false_eq_true, if_true, if_false, Option.isSome_some, Option.isSome_none, Option.isNone_some, Option.isNone_none, zB_t, zB_f, nI1_0, nI0_0]
      exact hQ _ F
    | some o =>
      rw [hq] at hQ
      refine Or.inr ⟨o, rfl, fun O => ?_⟩
      simp (disch := first | omega | assumption | exact gt_65 HM2 | fail) only [s168_0, s168_1, s168_2, s168_5, s168_8, s168_10, s168_13, s168_14, s168_17, s168_20, s168_21, s168_24, s168_25, s168_26, s168_29, s168_31, ai_97 HM2, gr_65_46 HM2, gt_65 HM2, am168, isRf_ref, true_and, and_true, aPs_s, aPs_n, b01_0, b01_1, nI_clamp, ix_nI, inb_nI, lt_nI, eq_nI, nn_nI, eq0_nI, pk_mul, nI_add, lt_T, lt_F, if_true, if_false, true_and, and_true, neg1_nI, neg1_lt, neg1_neg, lt_neg1, eqN_F, eq_self,  Bool.not_false, Bool.not_true, Bool.true_and, Bool.false_and, Bool.and_true, Bool.and_false, Bool.or_true, Bool.or_false, Bool.true_or, Bool.false_or, Bool.true_eq_false, Bool.false_eq_true, if_true, if_false, Option.isSome_some, Option.isSome_none, Option.isNone_some, Option.isNone_none, zB_t, zB_f, nI1_0, nI0_0, (O.1 j hj).1]
      exact hQ _ F
  · rw [e] at hQ
    simp (disch := first | omega | assumption | exact gt_65 HM | fail) only [s168_0, s168_1, s168_2, s168_5, s168_8, s168_10, s168_13, s168_14, s168_17, s168_20, s168_21, s168_24, s168_25, s168_26, s168_29, s168_31, ai_97 HM, gr_65_46 HM, gt_65 HM, am168, isRf_ref, true_and, and_true, aPs_s, aPs_n, b01_0, b01_1, nI_clamp, ix_nI, inb_nI, lt_nI, eq_nI, nn_nI, eq0_nI, pk_mul, nI_add, lt_T, lt_F, if_true, if_false, true_and, and_true, neg1_nI, neg1_lt, neg1_neg, lt_neg1, eqN_F, eq_self,  e, Bool.not_false, Bool.not_true, Bool.true_and, Bool.false_and, Bool.and_true, Bool.and_false, Bool.or_true, Bool.or_false, Bool.true_or, Bool.false_or, Bool.true_eq_false, Bool.false_eq_true, if_true, if_false, Option.isSome_some, Option.isSome_none, Option.isNone_some, Option.isNone_none, zB_t, zB_f, nI1_0, nI0_0]
    exact hQ _ Fm_refl
  · rw [e] at hQ
    simp (disch := first | omega | assumption | exact gt_65 HM | fail) only [s168_0, s168_1, s168_2, s168_5, s168_8, s168_10, s168_13, s168_14, s168_17, s168_20, s168_21, s168_24, s168_25, s168_26, s168_29, s168_31, ai_97 HM, gr_65_46 HM, gt_65 HM, am168, isRf_ref, true_and, and_true, aPs_s, aPs_n, b01_0, b01_1, nI_clamp, ix_nI, inb_nI, lt_nI, eq_nI, nn_nI, eq0_nI, pk_mul, nI_add, lt_T, lt_F, if_true, if_false, true_and, and_true, neg1_nI, neg1_lt, neg1_neg, lt_neg1, eqN_F, eq_self,  e, Bool.not_false, Bool.not_true, Bool.true_and, Bool.false_and, Bool.and_true, Bool.and_false, Bool.or_true, Bool.or_false, Bool.true_or, Bool.false_or, Bool.true_eq_false, Bool.false_eq_true, if_true, if_false, Option.isSome_some, Option.isSome_none, Option.isNone_some, Option.isNone_none, zB_t, zB_f, nI1_0, nI0_0]
    exact hQ _ Fm_refl
set_option maxHeartbeats 4000000 in
theorem t171 (HM : KM h) {P : Nat → Nat → Int32} (hP : pv h = P) (V : okP P) {tl : Option (Nat → Nat)} (T : toH h P tl) {k : Int32} (hQ : ∀ h', Fm h h' → Q (some (.int (match plc k (nS P) with
    | none => -5
    | some j => match oRD P tl with
      | none => -3
      | some o => nI (zLd P o j)))) h') : aM (d + 3) 171 [.ref 65, .int k] h Q := by
  have s10 := V.s.1
  have c167' : ∀ Q', aM (d + 2) 167 [.ref 65, .int k] h Q' = Q' (some (.int (zB (plc k (nS P)).isSome))) h := fun Q' => c167 HM hP V
  simp (disch := first | omega | assumption | exact gt_65 HM | fail) only [s171_0, s171_1, s171_2, s171_5, s171_8, s171_10, s171_13, s171_14, s171_17, s171_20, s171_21, s171_22, s171_25, s171_28, s171_30, gt_65 HM, am171, isRf_ref, true_and, and_true, aPs_s, aPs_n, b01_0, b01_1, nI_clamp, ix_nI, inb_nI, lt_nI, eq_nI, nn_nI, eq0_nI, pk_mul, nI_add, lt_T, lt_F, if_true, if_false, true_and, and_true, neg1_nI, neg1_lt, neg1_neg, lt_neg1, eqN_F, eq_self,  c167']
  rcases plc_cases k (nS P) (by omega) with ⟨j, hj, rfl, e⟩ | ⟨e, _⟩ | ⟨e, _⟩
  · simp (disch := first | omega | assumption | exact gt_65 HM | fail) only [s171_0, s171_1, s171_2, s171_5, s171_8, s171_10, s171_13, s171_14, s171_17, s171_20, s171_21, s171_22, s171_25, s171_28, s171_30, gt_65 HM, am171, isRf_ref, true_and, and_true, aPs_s, aPs_n, b01_0, b01_1, nI_clamp, ix_nI, inb_nI, lt_nI, eq_nI, nn_nI, eq0_nI, pk_mul, nI_add, lt_T, lt_F, if_true, if_false, true_and, and_true, neg1_nI, neg1_lt, neg1_neg, lt_neg1, eqN_F, eq_self,  e, Bool.not_false, Bool.not_true, Bool.true_and, Bool.false_and, Bool.and_true, Bool.and_false, Bool.or_true, Bool.or_false, Bool.true_or, Bool.false_or, Bool.true_eq_false, Bool.false_eq_true, if_true, if_false, Option.isSome_some, Option.isSome_none, Option.isNone_some, Option.isNone_none, zB_t, zB_f, nI1_0, nI0_0]
    rw [e] at hQ
    refine c163q HM hP V T (fun h' F => ?_)
    have HM2 := Fm_KM F HM
    cases hq : oRD P tl with
    | none =>
      rw [hq] at hQ
      refine Or.inl ⟨rfl, ?_⟩
      simp (disch := first | omega | assumption | exact gt_65 HM2 | fail) only [s171_0, s171_1, s171_2, s171_5, s171_8, s171_10, s171_13, s171_14, s171_17, s171_20, s171_21, s171_22, s171_25, s171_28, s171_30, gt_65 HM2, am171, isRf_ref, true_and, and_true, aPs_s, aPs_n, b01_0, b01_1, nI_clamp, ix_nI, inb_nI, lt_nI, eq_nI, nn_nI, eq0_nI, pk_mul, nI_add, lt_T, lt_F, if_true, if_false, true_and, and_true, neg1_nI, neg1_lt, neg1_neg, lt_neg1, eqN_F, eq_self,  Bool.not_false, Bool.not_true, Bool.true_and, Bool.false_and, Bool.and_true, Bool.and_false, Bool.or_true, Bool.or_false, Bool.true_or, Bool.false_or, Bool.true_eq_false, Bool.false_eq_true, if_true, if_false, Option.isSome_some, Option.isSome_none, Option.isNone_some, Option.isNone_none, zB_t, zB_f, nI1_0, nI0_0]
      exact hQ _ F
    | some o =>
      rw [hq] at hQ
      refine Or.inr ⟨o, rfl, fun O => ?_⟩
      simp (disch := first | omega | assumption | exact gt_65 HM2 | fail) only [s171_0, s171_1, s171_2, s171_5, s171_8, s171_10, s171_13, s171_14, s171_17, s171_20, s171_21, s171_22, s171_25, s171_28, s171_30, gt_65 HM2, am171, isRf_ref, true_and, and_true, aPs_s, aPs_n, b01_0, b01_1, nI_clamp, ix_nI, inb_nI, lt_nI, eq_nI, nn_nI, eq0_nI, pk_mul, nI_add, lt_T, lt_F, if_true, if_false, true_and, and_true, neg1_nI, neg1_lt, neg1_neg, lt_neg1, eqN_F, eq_self,  Bool.not_false, Bool.not_true, Bool.true_and, Bool.false_and, Bool.and_true, Bool.and_false, Bool.or_true, Bool.or_false, Bool.true_or, Bool.false_or, Bool.true_eq_false, Bool.false_eq_true, if_true, if_false, Option.isSome_some, Option.isSome_none, Option.isNone_some, Option.isNone_none, zB_t, zB_f, nI1_0, nI0_0]
      rw [c170 HM2 ((Fm_pv F).trans hP) V O hj]
      simp (disch := first | omega | assumption | exact gt_65 HM2 | fail) only [s171_0, s171_1, s171_2, s171_5, s171_8, s171_10, s171_13, s171_14, s171_17, s171_20, s171_21, s171_22, s171_25, s171_28, s171_30, gt_65 HM2, am171, isRf_ref, true_and, and_true, aPs_s, aPs_n, b01_0, b01_1, nI_clamp, ix_nI, inb_nI, lt_nI, eq_nI, nn_nI, eq0_nI, pk_mul, nI_add, lt_T, lt_F, if_true, if_false, true_and, and_true, neg1_nI, neg1_lt, neg1_neg, lt_neg1, eqN_F, eq_self,  Bool.not_false, Bool.not_true, Bool.true_and, Bool.false_and, Bool.and_true, Bool.and_false, Bool.or_true, Bool.or_false, Bool.true_or, Bool.false_or, Bool.true_eq_false, Bool.false_eq_true, if_true, if_false, Option.isSome_some, Option.isSome_none, Option.isNone_some, Option.isNone_none, zB_t, zB_f, nI1_0, nI0_0]
      exact hQ _ F
  · rw [e] at hQ
    simp (disch := first | omega | assumption | exact gt_65 HM | fail) only [s171_0, s171_1, s171_2, s171_5, s171_8, s171_10, s171_13, s171_14, s171_17, s171_20, s171_21, s171_22, s171_25, s171_28, s171_30, gt_65 HM, am171, isRf_ref, true_and, and_true, aPs_s, aPs_n, b01_0, b01_1, nI_clamp, ix_nI, inb_nI, lt_nI, eq_nI, nn_nI, eq0_nI, pk_mul, nI_add, lt_T, lt_F, if_true, if_false, true_and, and_true, neg1_nI, neg1_lt, neg1_neg, lt_neg1, eqN_F, eq_self,  e, Bool.not_false, Bool.not_true, Bool.true_and, Bool.false_and, Bool.and_true, Bool.and_false, Bool.or_true, Bool.or_false, Bool.true_or, Bool.false_or, Bool.true_eq_false, Bool.false_eq_true, if_true, if_false, Option.isSome_some, Option.isSome_none, Option.isNone_some, Option.isNone_none, zB_t, zB_f, nI1_0, nI0_0]
    exact hQ _ Fm_refl
  · rw [e] at hQ
    simp (disch := first | omega | assumption | exact gt_65 HM | fail) only [s171_0, s171_1, s171_2, s171_5, s171_8, s171_10, s171_13, s171_14, s171_17, s171_20, s171_21, s171_22, s171_25, s171_28, s171_30, gt_65 HM, am171, isRf_ref, true_and, and_true, aPs_s, aPs_n, b01_0, b01_1, nI_clamp, ix_nI, inb_nI, lt_nI, eq_nI, nn_nI, eq0_nI, pk_mul, nI_add, lt_T, lt_F, if_true, if_false, true_and, and_true, neg1_nI, neg1_lt, neg1_neg, lt_neg1, eqN_F, eq_self,  e, Bool.not_false, Bool.not_true, Bool.true_and, Bool.false_and, Bool.and_true, Bool.and_false, Bool.or_true, Bool.or_false, Bool.true_or, Bool.false_or, Bool.true_eq_false, Bool.false_eq_true, if_true, if_false, Option.isSome_some, Option.isSome_none, Option.isNone_some, Option.isNone_none, zB_t, zB_f, nI1_0, nI0_0]
    exact hQ _ Fm_refl
set_option maxHeartbeats 4000000 in
theorem t172 (HM : KM h) {P : Nat → Nat → Int32} (hP : pv h = P) (V : okP P) {tl : Option (Nat → Nat)} (T : toH h P tl) {k : Int32} (hQ : ∀ h', Fm h h' → Q (some (.int (match plc k (nS P) with
    | none => -5
    | some j => match oRD P tl with
      | none => -3
      | some o => oI (mOv P o j)))) h') : aM (d + 3) 172 [.ref 65, .int k] h Q := by
  have s10 := V.s.1
  have c167' : ∀ Q', aM (d + 2) 167 [.ref 65, .int k] h Q' = Q' (some (.int (zB (plc k (nS P)).isSome))) h := fun Q' => c167 HM hP V
  simp (disch := first | omega | assumption | exact gt_65 HM | fail) only [s172_0, s172_1, s172_2, s172_5, s172_8, s172_10, s172_13, s172_14, s172_17, s172_20, s172_21, s172_22, s172_25, s172_28, s172_30, gt_65 HM, am172, isRf_ref, true_and, and_true, aPs_s, aPs_n, b01_0, b01_1, nI_clamp, ix_nI, inb_nI, lt_nI, eq_nI, nn_nI, eq0_nI, pk_mul, nI_add, lt_T, lt_F, if_true, if_false, true_and, and_true, neg1_nI, neg1_lt, neg1_neg, lt_neg1, eqN_F, eq_self,  c167']
  rcases plc_cases k (nS P) (by omega) with ⟨j, hj, rfl, e⟩ | ⟨e, _⟩ | ⟨e, _⟩
  · simp (disch := first | omega | assumption | exact gt_65 HM | fail) only [s172_0, s172_1, s172_2, s172_5, s172_8, s172_10, s172_13, s172_14, s172_17, s172_20, s172_21, s172_22, s172_25, s172_28, s172_30, gt_65 HM, am172, isRf_ref, true_and, and_true, aPs_s, aPs_n, b01_0, b01_1, nI_clamp, ix_nI, inb_nI, lt_nI, eq_nI, nn_nI, eq0_nI, pk_mul, nI_add, lt_T, lt_F, if_true, if_false, true_and, and_true, neg1_nI, neg1_lt, neg1_neg, lt_neg1, eqN_F, eq_self,  e, Bool.not_false, Bool.not_true, Bool.true_and, Bool.false_and, Bool.and_true, Bool.and_false, Bool.or_true, Bool.or_false, Bool.true_or, Bool.false_or, Bool.true_eq_false, Bool.false_eq_true, if_true, if_false, Option.isSome_some, Option.isSome_none, Option.isNone_some, Option.isNone_none, zB_t, zB_f, nI1_0, nI0_0]
    rw [e] at hQ
    refine c163q HM hP V T (fun h' F => ?_)
    have HM2 := Fm_KM F HM
    cases hq : oRD P tl with
    | none =>
      rw [hq] at hQ
      refine Or.inl ⟨rfl, ?_⟩
      simp (disch := first | omega | assumption | exact gt_65 HM2 | fail) only [s172_0, s172_1, s172_2, s172_5, s172_8, s172_10, s172_13, s172_14, s172_17, s172_20, s172_21, s172_22, s172_25, s172_28, s172_30, gt_65 HM2, am172, isRf_ref, true_and, and_true, aPs_s, aPs_n, b01_0, b01_1, nI_clamp, ix_nI, inb_nI, lt_nI, eq_nI, nn_nI, eq0_nI, pk_mul, nI_add, lt_T, lt_F, if_true, if_false, true_and, and_true, neg1_nI, neg1_lt, neg1_neg, lt_neg1, eqN_F, eq_self,  Bool.not_false, Bool.not_true, Bool.true_and, Bool.false_and, Bool.and_true, Bool.and_false, Bool.or_true, Bool.or_false, Bool.true_or, Bool.false_or, Bool.true_eq_false, Bool.false_eq_true, if_true, if_false, Option.isSome_some, Option.isSome_none, Option.isNone_some, Option.isNone_none, zB_t, zB_f, nI1_0, nI0_0]
      exact hQ _ F
    | some o =>
      rw [hq] at hQ
      refine Or.inr ⟨o, rfl, fun O => ?_⟩
      simp (disch := first | omega | assumption | exact gt_65 HM2 | fail) only [s172_0, s172_1, s172_2, s172_5, s172_8, s172_10, s172_13, s172_14, s172_17, s172_20, s172_21, s172_22, s172_25, s172_28, s172_30, gt_65 HM2, am172, isRf_ref, true_and, and_true, aPs_s, aPs_n, b01_0, b01_1, nI_clamp, ix_nI, inb_nI, lt_nI, eq_nI, nn_nI, eq0_nI, pk_mul, nI_add, lt_T, lt_F, if_true, if_false, true_and, and_true, neg1_nI, neg1_lt, neg1_neg, lt_neg1, eqN_F, eq_self,  Bool.not_false, Bool.not_true, Bool.true_and, Bool.false_and, Bool.and_true, Bool.and_false, Bool.or_true, Bool.or_false, Bool.true_or, Bool.false_or, Bool.true_eq_false, Bool.false_eq_true, if_true, if_false, Option.isSome_some, Option.isSome_none, Option.isNone_some, Option.isNone_none, zB_t, zB_f, nI1_0, nI0_0]
      rw [c169 HM2 ((Fm_pv F).trans hP) V O hj]
      simp (disch := first | omega | assumption | exact gt_65 HM2 | fail) only [s172_0, s172_1, s172_2, s172_5, s172_8, s172_10, s172_13, s172_14, s172_17, s172_20, s172_21, s172_22, s172_25, s172_28, s172_30, gt_65 HM2, am172, isRf_ref, true_and, and_true, aPs_s, aPs_n, b01_0, b01_1, nI_clamp, ix_nI, inb_nI, lt_nI, eq_nI, nn_nI, eq0_nI, pk_mul, nI_add, lt_T, lt_F, if_true, if_false, true_and, and_true, neg1_nI, neg1_lt, neg1_neg, lt_neg1, eqN_F, eq_self,  Bool.not_false, Bool.not_true, Bool.true_and, Bool.false_and, Bool.and_true, Bool.and_false, Bool.or_true, Bool.or_false, Bool.true_or, Bool.false_or, Bool.true_eq_false, Bool.false_eq_true, if_true, if_false, Option.isSome_some, Option.isSome_none, Option.isNone_some, Option.isNone_none, zB_t, zB_f, nI1_0, nI0_0]
      exact hQ _ F
  · rw [e] at hQ
    simp (disch := first | omega | assumption | exact gt_65 HM | fail) only [s172_0, s172_1, s172_2, s172_5, s172_8, s172_10, s172_13, s172_14, s172_17, s172_20, s172_21, s172_22, s172_25, s172_28, s172_30, gt_65 HM, am172, isRf_ref, true_and, and_true, aPs_s, aPs_n, b01_0, b01_1, nI_clamp, ix_nI, inb_nI, lt_nI, eq_nI, nn_nI, eq0_nI, pk_mul, nI_add, lt_T, lt_F, if_true, if_false, true_and, and_true, neg1_nI, neg1_lt, neg1_neg, lt_neg1, eqN_F, eq_self,  e, Bool.not_false, Bool.not_true, Bool.true_and, Bool.false_and, Bool.and_true, Bool.and_false, Bool.or_true, Bool.or_false, Bool.true_or, Bool.false_or, Bool.true_eq_false, Bool.false_eq_true, if_true, if_false, Option.isSome_some, Option.isSome_none, Option.isNone_some, Option.isNone_none, zB_t, zB_f, nI1_0, nI0_0]
    exact hQ _ Fm_refl
  · rw [e] at hQ
    simp (disch := first | omega | assumption | exact gt_65 HM | fail) only [s172_0, s172_1, s172_2, s172_5, s172_8, s172_10, s172_13, s172_14, s172_17, s172_20, s172_21, s172_22, s172_25, s172_28, s172_30, gt_65 HM, am172, isRf_ref, true_and, and_true, aPs_s, aPs_n, b01_0, b01_1, nI_clamp, ix_nI, inb_nI, lt_nI, eq_nI, nn_nI, eq0_nI, pk_mul, nI_add, lt_T, lt_F, if_true, if_false, true_and, and_true, neg1_nI, neg1_lt, neg1_neg, lt_neg1, eqN_F, eq_self,  e, Bool.not_false, Bool.not_true, Bool.true_and, Bool.false_and, Bool.and_true, Bool.and_false, Bool.or_true, Bool.or_false, Bool.true_or, Bool.false_or, Bool.true_eq_false, Bool.false_eq_true, if_true, if_false, Option.isSome_some, Option.isSome_none, Option.isNone_some, Option.isNone_none, zB_t, zB_f, nI1_0, nI0_0]
    exact hQ _ Fm_refl
end M9
