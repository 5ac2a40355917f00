/-! THE REFERENCE'S PROGRAM: sizes as numbers, what is ALIVE, OVER, LOAD -/
def zSz (P : Nat → Nat → Int32) (b : Nat) : Nat → Nat
  | 0 => 0
  | k + 1 => zSz P b k + ix (P 70 (4 * b + k)) * (if P 71 (4 * b + k) = -1 then 1 else ix (P 67 (ix (P 71 (4 * b + k)))))
def zS (P : Nat → Nat → Int32) (b : Nat) : Nat := zSz P b (ix (P 69 b))
theorem zSz_ok {P : Nat → Nat → Int32} (V : okP P) {b : Nat} (hb : b < 12) : ∀ {k : Nat}, k ≤ ix (P 69 b) → mSz P b k = nI (zSz P b k) ∧ zSz P b k ≤ 9801 * k := by
  intro k
  have h4 : ix (P 69 b) < 5 := (V.2.1 b hb).1.2
  induction k with
  | zero => exact fun _ => ⟨rfl, Nat.le_refl _⟩
  | succ k ih =>
    intro hk
    obtain ⟨i1, i2⟩ := ih (by omega)
    obtain ⟨v1, v2⟩ := (V.2.1 b hb).2.2.2 k (by omega)
    obtain ⟨n, hn, en⟩ := bn_of v2
    have key : ∃ m, m < 100 ∧ (if P 71 (4 * b + k) = -1 then nI 1 else P 67 (ix (P 71 (4 * b + k)))) = nI m ∧ (if P 71 (4 * b + k) = -1 then 1 else ix (P 67 (ix (P 71 (4 * b + k))))) = m := by
      split
      · exact ⟨1, by decide, rfl, rfl⟩
      · rename_i hne
        obtain ⟨j, hj, ej⟩ := bn_of (v1.resolve_left hne)
        rw [ej, ix_nI (by omega)]
        obtain ⟨m, hm, em⟩ := bn_of (V.2.2.2 j hj)
        exact ⟨m, hm, em, by rw [em, ix_nI (by omega)]⟩
    obtain ⟨m, hm, e1, e2⟩ := key
    have hnm : n * m ≤ 99 * 99 := Nat.mul_le_mul (by omega) (by omega)
    rw [mSz, zSz, e1, e2, en, ix_nI (by omega), i1, pk_mul, nI_add]
    exact ⟨rfl, by omega⟩
theorem zS_ok {P : Nat → Nat → Int32} (V : okP P) {b : Nat} (hb : b < 12) : mSize P b = nI (zS P b) ∧ zS P b ≤ 39204 := by
  have h4 : ix (P 69 b) < 5 := (V.2.1 b hb).1.2
  obtain ⟨a, c⟩ := zSz_ok V hb (Nat.le_refl _)
  exact ⟨a, by unfold zS; omega⟩
def zRs (P : Nat → Nat → Int32) (s : Nat) : Nat → Nat
  | 0 => 0
  | k + 1 => zRs P s k + zS P (nRd P s k)
theorem zRs_ok {P : Nat → Nat → Int32} (V : okP P) {s : Nat} (hs : s < nS P) : ∀ {k : Nat}, k ≤ nRc P s → mRs P s k = nI (zRs P s k) ∧ zRs P s k ≤ 39204 * k := by
  intro k
  induction k with
  | zero => exact fun _ => ⟨rfl, Nat.le_refl _⟩
  | succ k ih =>
    intro hk
    obtain ⟨i1, i2⟩ := ih (by omega)
    obtain ⟨a, c⟩ := zS_ok V (V.r hs (show k < nRc P s by omega)).2
    rw [mRs, zRs, i1, a, nI_add]
    exact ⟨rfl, by omega⟩
def zScr (k r w : Nat) : Nat := if k = 2 then w else if k = 3 then (if w < r then r else w) / 2 else if k = 4 then w + r else if k = 5 then w / 8 else 0
theorem zScr_ok {k r w : Nat} (hk : k < 6) (hr : r ≤ 156816) (hw : w ≤ 39204) : kScr (nI k) (nI r) (nI w) = nI (zScr k r w) ∧ zScr k r w ≤ 196020 := by
  have hk2 : k < 2 ^ 31 := by omega
  unfold kScr zScr
  simp (disch := omega) only [eq_nI, lt_nI]
  split
  · exact ⟨rfl, by omega⟩
  split
  · split
    · exact ⟨pk_div (by omega) (by decide) (by decide), by omega⟩
    · exact ⟨pk_div (by omega) (by decide) (by decide), by omega⟩
  split
  · exact ⟨nI_add .., by omega⟩
  split
  · exact ⟨pk_div (by omega) (by decide) (by decide), by omega⟩
  · exact ⟨rfl, by omega⟩
def nK (P : Nat → Nat → Int32) (s : Nat) : Nat := ix (P 73 s)
def zC (P : Nat → Nat → Int32) (s : Nat) : Nat := zScr (nK P s) (zRs P s (nRc P s)) (zS P (nWt P s))
theorem zC_ok {P : Nat → Nat → Int32} (V : okP P) {s : Nat} (hs : s < nS P) : mScr P s = nI (zC P s) ∧ zC P s ≤ 196020 := by
  obtain ⟨k1, k2⟩ := V.k hs
  obtain ⟨a, c⟩ := zRs_ok V hs (Nat.le_refl _)
  obtain ⟨a2, c2⟩ := zS_ok V (V.w hs).2
  have := (V.c hs).2
  unfold mScr zC
  rw [k1, a, a2]
  exact zScr_ok k2 (by omega) (by omega)
def zTk (k t : Nat) : Nat := if k = 1 then (t + 1) / 2 else if k = 3 then (t + 1) / 2 + 2 else if k = 4 then 3 * t else t
theorem zTk_ok {k t : Nat} (hk : k < 6) (ht : t < 1000) : kTicks (nI k) (nI t) = nI (zTk k t) ∧ zTk k t ≤ 3 * t + 2 := by
  unfold kTicks zTk
  simp (disch := omega) only [eq_nI, nI_add, pk_mul]
  split
  · exact ⟨pk_div (by omega) (by decide) (by decide), by omega⟩
  split
  · rw [pk_div (by omega) (by decide) (by decide), nI_add]
    exact ⟨rfl, by omega⟩
  split
  · exact ⟨rfl, by omega⟩
  · exact ⟨rfl, by omega⟩
def fr (P : Nat → Nat → Int32) (o : Nat → Nat) (b : Nat) : Nat := (lfE P o b).1
def ti (P : Nat → Nat → Int32) (o : Nat → Nat) (b : Nat) : Option Nat := (lfE P o b).2
theorem lf_le {P : Nat → Nat → Int32} {o : Nat → Nat} {b : Nat} : ∀ {n t : Nat}, (lf P o b n).2 = some t → (lf P o b n).1 ≤ t := by
  intro n
  induction n with
  | zero => intro t h; cases h
  | succ n ih =>
    intro t h
    rw [lf] at h ⊢
    simp only at h ⊢
    have := (lf_lt (P := P) (o := o) (b := b) (n := n)).1
    split at h
    · cases h; split <;> omega
    · split at h
      · rename_i hw; cases h; rw [if_pos hw]; exact Nat.le_refl _
      · rename_i hw; rw [if_neg hw]; exact ih h
theorem fr_ti {P : Nat → Nat → Int32} {o : Nat → Nat} {b t : Nat} (h : ti P o b = some t) : fr P o b ≤ t ∧ t < nS P ∧ P 68 b ≠ 0 := by
  unfold ti at h
  unfold fr
  unfold lfE at h ⊢
  split at h
  · cases h
  · rename_i hn
    rw [if_neg hn]
    exact ⟨lf_le h, lf_lt.2 t h, hn⟩
theorem fr_lt {P : Nat → Nat → Int32} {o : Nat → Nat} {b : Nat} : fr P o b ≤ nS P := by
  unfold fr lfE
  split
  · exact Nat.zero_le _
  · exact lf_lt.1
/-- is a BUFFER ALIVE at a place -/
def mAl (P : Nat → Nat → Int32) (o : Nat → Nat) (b k : Nat) : Bool := match ti P o b with
  | some t => decide (fr P o b ≤ k) && decide (k ≤ t)
  | none => false
def ovC (P : Nat → Nat → Int32) (o : Nat → Nat) (k b : Nat) : Bool := kOver (P 73 (o k)) && (mRdB P (o k) b && (ti P o b == some k && P 72 b == 0))
def ovB (P : Nat → Nat → Int32) (t : Option Nat) (b : Nat) : Bool := match t with
  | none => true
  | some x => decide (zS P x < zS P b)
def mOvN (P : Nat → Nat → Int32) (o : Nat → Nat) (k : Nat) : Nat → Option Nat
  | 0 => none
  | b + 1 => if (ovC P o k b && ovB P (mOvN P o k b) b) = true then some b else mOvN P o k b
def mOv (P : Nat → Nat → Int32) (o : Nat → Nat) (k : Nat) : Option Nat := mOvN P o k 12
theorem mOvN_ok {P : Nat → Nat → Int32} {o : Nat → Nat} {k : Nat} : ∀ {n x : Nat}, mOvN P o k n = some x → x < n ∧ ovC P o k x = true := by
  intro n
  induction n with
  | zero => intro x h; cases h
  | succ n ih =>
    intro x h
    rw [mOvN] at h
    split at h
    · rename_i hc
      cases h
      exact ⟨by omega, (Bool.and_eq_true_iff.mp hc).1⟩
    · obtain ⟨a, c⟩ := ih h
      exact ⟨by omega, c⟩
def zAl (P : Nat → Nat → Int32) (o : Nat → Nat) (k : Nat) : Nat → Nat
  | 0 => 0
  | b + 1 => zAl P o k b + (if mAl P o b k = true then zS P b else 0)
theorem zAl_le {P : Nat → Nat → Int32} (V : okP P) {o : Nat → Nat} {k : Nat} : ∀ {n : Nat}, n ≤ 12 → zAl P o k n ≤ 39204 * n := by
  intro n
  induction n with
  | zero => exact fun _ => Nat.le_refl _
  | succ n ih =>
    intro hn
    have := ih (by omega)
    have := (zS_ok V (show n < 12 by omega)).2
    rw [zAl]
    split <;> omega
theorem zAl_ge {P : Nat → Nat → Int32} {o : Nat → Nat} {k x : Nat} (hx : mAl P o x k = true) : ∀ {n : Nat}, x < n → zS P x ≤ zAl P o k n := by
  intro n
  induction n with
  | zero => intro h; omega
  | succ n ih =>
    intro h
    rw [zAl]
    by_cases e : x = n
    · subst e; rw [if_pos hx]; omega
    · have := ih (by omega); omega
theorem ovC_al {P : Nat → Nat → Int32} {o : Nat → Nat} {k x : Nat} (h : ovC P o k x = true) : mAl P o x k = true := by
  have h2 : ti P o x = some k := by
    have := (Bool.and_eq_true_iff.mp (Bool.and_eq_true_iff.mp (Bool.and_eq_true_iff.mp h).2).2).1
    exact eq_of_beq this
  unfold mAl
  rw [h2]
  simp only [decide_eq_true (fr_ti h2).1, decide_eq_true (Nat.le_refl k), Bool.and_true]
/-- LOAD at a place -/
def zLd (P : Nat → Nat → Int32) (o : Nat → Nat) (k : Nat) : Nat := zC P (o k) + zAl P o k 12 - (match mOv P o k with | none => 0 | some x => if zS P x < zS P (nWt P (o k)) then zS P x else zS P (nWt P (o k)))
theorem zLd_le {P : Nat → Nat → Int32} (V : okP P) {o : Nat → Nat} {k : Nat} (hk : o k < nS P) : zLd P o k ≤ 666468 := by
  have := (zC_ok V hk).2
  have := zAl_le V (o := o) (k := k) (Nat.le_refl 12)
  unfold zLd
  omega
/-- what a heap shows of an ORDER -/
def ovH (h : abH) (P : Nat → Nat → Int32) (o : Nat → Nat) : Prop := (∀ k, k < nS P → gI h 97 k = nI (o k) ∧ o k < nS P) ∧ ∀ b, b < 12 → gI h 98 b = nI (fr P o b) ∧ gI h 99 b = oI (ti P o b)
section M5
variable {d : Nat} {h : abH} {Q : Option Value → abH → Prop}
theorem c154n (HM : KM h) {P : Nat → Nat → Int32} (hP : pv h = P) {b : Nat} (hb : b < 12) (V : okP P) : aM d 154 [.ref 65, .int (nI b)] h Q = Q (some (.int (nI (zS P b)))) h := by
  rw [c154 HM hP hb V, (zS_ok V hb).1]
theorem c159n (HM : KM h) {P : Nat → Nat → Int32} (hP : pv h = P) {s : Nat} (hs : s < nS P) (V : okP P) : aM (d + 1) 159 [.ref 65, .int (nI s)] h Q = Q (some (.int (nI (zC P s)))) h := by
  rw [c159 HM hP hs V, (zC_ok V hs).1]
set_option maxHeartbeats 4000000 in
theorem c165 (HM : KM h) {P : Nat → Nat → Int32} (hP : pv h = P) (V : okP P) {o : Nat → Nat} (O : ovH h P o) {b k : Nat} (hb : b < 12) (hk : k < 2 ^ 31) : aM d 165 [.ref 65, .int (nI b), .int (nI k)] h Q = Q (some (.int (zB (mAl P o b k)))) h := by
  obtain ⟨f1, t1⟩ := O.2 b hb
  have hf := fr_lt (P := P) (o := o) (b := b)
  have s10 := V.s.1
  have e68 : gI h 68 b = P 68 b := by rw [← hP]; rfl
  simp (disch := first | omega | assumption | exact gt_65 HM) only [s165_0, s165_1, s165_4, s165_5, s165_6, s165_9, s165_10, s165_11, s165_14, s165_15, s165_16, s165_19, s165_20, s165_21, s165_24, s165_25, s165_26, s165_29, s165_30, s165_33, s165_34, ai_98 HM, ai_99 HM, az_68 HM, gr_65_47 HM, gr_65_48 HM, gr_65_5 HM, gt_65 HM, am165, isRf_ref, true_and, and_true, aPs_s, aPs_n, b01_0, b01_1, nI_clamp, ix_nI, inb_nI, lt_nI, eq_nI, nn_nI, eq0_nI, pk_mul, nI_add, lt_T, lt_F, if_true, if_false, true_and, and_true, neg1_nI, neg1_lt, neg1_neg, lt_neg1, eqN_F, eq_self,  f1, e68]
  unfold mAl
  by_cases h0 : P 68 b = 0
  · have : ti P o b = none := by unfold ti lfE; rw [if_pos h0]
    simp only [h0, this, if_true, zB]
  · cases ht : ti P o b with
    | none =>
      rw [ht] at t1
      simp (disch := first | omega | assumption | (simp only [gT_pA, gT_pR, aI_pA, aI_pR]; assumption)) only [h0, t1, oI, nI_clamp, ix_nI, inb_nI, lt_nI, eq_nI, nn_nI, eq0_nI, pk_mul, nI_add, lt_T, lt_F, if_true, if_false, true_and, and_true, neg1_nI, neg1_lt, neg1_neg, lt_neg1, eqN_F, eq_self, zB]
      split <;> rfl
    | some t =>
      rw [ht] at t1
      have ht2 := fr_ti ht
      simp (disch := first | omega | assumption | (simp only [gT_pA, gT_pR, aI_pA, aI_pR]; assumption)) only [h0, t1, oI, nI_clamp, ix_nI, inb_nI, lt_nI, eq_nI, nn_nI, eq0_nI, pk_mul, nI_add, lt_T, lt_F, if_true, if_false, true_and, and_true, neg1_nI, neg1_lt, neg1_neg, lt_neg1, eqN_F, eq_self, zB]
      by_cases h1 : k < fr P o b
      · simp only [h1, if_true, decide_eq_false (show ¬ fr P o b ≤ k by omega), Bool.false_and]
      · by_cases h2 : t < k
        · simp only [h1, h2, if_true, if_false, decide_eq_false (show ¬ k ≤ t by omega), Bool.and_false]
        · simp only [h1, h2, if_false, decide_eq_true (show k ≤ t by omega), decide_eq_true (show fr P o b ≤ k by omega), Bool.and_true]
set_option maxHeartbeats 4000000 in
theorem c169 (HM : KM h) {P : Nat → Nat → Int32} (hP : pv h = P) (V : okP P) {o : Nat → Nat} (O : ovH h P o) {k : Nat} (hk : k < nS P) : aM (d + 1) 169 [.ref 65, .int (nI k)] h Q = Q (some (.int (oI (mOv P o k)))) h := by
  obtain ⟨o1, o2⟩ := O.1 k hk
  have s10 := V.s.1
  have e73 : gI h 73 (o k) = P 73 (o k) := by rw [← hP]; rfl
  have loop := for_0 (F := fun b => aW (d + 1) 169 12 [.ref 65, .int (nI k), .int (nI (o k)), .int (oI (mOvN P o k b)), .int (nI b)] [] h Q) (R := Q (some (.int (oI (mOv P o k)))) h) 12 (by
    rw [s169_12]
    simp (disch := first | omega | assumption | exact gt_65 HM) only [s169_0, s169_1, s169_4, s169_5, s169_6, s169_7, s169_8, s169_9, s169_10, s169_14, s169_16, s169_19, s169_20, s169_23, s169_24, s169_25, s169_28, s169_31, s169_32, s169_33, s169_35, s169_38, s169_41, s169_42, s169_45, s169_47, s169_48, s169_49, s169_52, s169_53, s169_56, s169_58, s169_59, s169_62, s169_63, s169_64, s169_67, s169_68, s169_70, s169_73, s169_74, s169_75, s169_78, s169_79, s169_82, s169_83, s169_86, s169_89, s169_91, s169_92, s169_95, s169_98, s169_99, ai_73 HM, ai_97 HM, ai_99 HM, az_72 HM, gr_65_10 HM, gr_65_46 HM, gr_65_48 HM, gr_65_9 HM, gt_65 HM, am169, isRf_ref, true_and, and_true, aPs_s, aPs_n, b01_0, b01_1, nI_clamp, ix_nI, inb_nI, lt_nI, eq_nI, nn_nI, eq0_nI, pk_mul, nI_add, lt_T, lt_F, if_true, if_false, true_and, and_true, neg1_nI, neg1_lt, neg1_neg, lt_neg1, eqN_F, eq_self, ]
    rfl) (fun b hb => by
    obtain ⟨f1, t1⟩ := O.2 b hb
    have e72 : gI h 72 b = P 72 b := by rw [← hP]; rfl
    have c160' : ∀ Q', aM d 160 [.ref 65, .int (nI (o k)), .int (nI b)] h Q' = Q' (some (.int (zB (mRdB P (o k) b)))) h := fun Q' => c160 HM hP o2 V
    have c154' : ∀ b, b < 12 → ∀ Q', aM d 154 [.ref 65, .int (nI b)] h Q' = Q' (some (.int (nI (zS P b)))) h := fun b hb Q' => c154n HM hP hb V
    have et : (gI h 99 b = nI k) = ((ti P o b == some k) = true) := by
      rw [t1]
      cases ht : ti P o b with
      | none => rw [oI, neg1_nI' (by omega)]; simp
      | some t =>
        have := (fr_ti ht).2.1
        rw [oI, eq_nI (by omega) (by omega)]
        simp
    have ew : (P 72 b = 0) = ((P 72 b == 0) = true) := by simp
    have hzb := (zS_ok V hb).2
    rw [s169_12]
    simp (disch := first | omega | assumption | exact gt_65 HM) only [s169_0, s169_1, s169_4, s169_5, s169_6, s169_7, s169_8, s169_9, s169_10, s169_14, s169_16, s169_19, s169_20, s169_23, s169_24, s169_25, s169_28, s169_31, s169_32, s169_33, s169_35, s169_38, s169_41, s169_42, s169_45, s169_47, s169_48, s169_49, s169_52, s169_53, s169_56, s169_58, s169_59, s169_62, s169_63, s169_64, s169_67, s169_68, s169_70, s169_73, s169_74, s169_75, s169_78, s169_79, s169_82, s169_83, s169_86, s169_89, s169_91, s169_92, s169_95, s169_98, s169_99, ai_73 HM, ai_97 HM, ai_99 HM, az_72 HM, gr_65_10 HM, gr_65_46 HM, gr_65_48 HM, gr_65_9 HM, gt_65 HM, am169, isRf_ref, true_and, and_true, aPs_s, aPs_n, b01_0, b01_1, nI_clamp, ix_nI, inb_nI, lt_nI, eq_nI, nn_nI, eq0_nI, pk_mul, nI_add, lt_T, lt_F, if_true, if_false, true_and, and_true, neg1_nI, neg1_lt, neg1_neg, lt_neg1, eqN_F, eq_self,  hb, c157, e73, c160', et, e72, ew, zB_0, c154']
    rw [mOvN]
    unfold ovC
    rcases Bool.eq_false_or_eq_true (kOver (P 73 (o k))) with h1 | h1
    · rcases Bool.eq_false_or_eq_true (mRdB P (o k) b) with h2 | h2
      · rcases Bool.eq_false_or_eq_true (ti P o b == some k) with h3 | h3
        · rcases Bool.eq_false_or_eq_true (P 72 b == 0) with h4 | h4
          · cases hx : mOvN P o k b with
            | none =>
              simp (disch := first | omega | assumption | (simp only [gT_pA, gT_pR, aI_pA, aI_pR]; assumption)) only [h1, h2, h3, h4, Bool.not_false, Bool.not_true, Bool.true_and, Bool.false_and, Bool.and_true, Bool.and_false, Bool.or_true, Bool.or_false, Bool.true_or, Bool.false_or, Bool.true_eq_false, Bool.false_eq_true, if_true, if_false, Option.isSome_some, Option.isSome_none, Option.isNone_some, Option.isNone_none, zB_t, zB_f, nI1_0, nI0_0, nI_clamp, ix_nI, inb_nI, lt_nI, eq_nI, nn_nI, eq0_nI, pk_mul, nI_add, lt_T, lt_F, if_true, if_false, true_and, and_true, neg1_nI, neg1_lt, neg1_neg, lt_neg1, eqN_F, eq_self, oI, ovB]
            | some x =>
              have hxb := (mOvN_ok hx).1
              have hzx := (zS_ok V (show x < 12 by omega)).2
              have hx12 : x < 12 := by omega
              by_cases h5 : zS P x < zS P b <;> simp (disch := first | omega | assumption | exact gt_65 HM) only [s169_0, s169_1, s169_4, s169_5, s169_6, s169_7, s169_8, s169_9, s169_10, s169_14, s169_16, s169_19, s169_20, s169_23, s169_24, s169_25, s169_28, s169_31, s169_32, s169_33, s169_35, s169_38, s169_41, s169_42, s169_45, s169_47, s169_48, s169_49, s169_52, s169_53, s169_56, s169_58, s169_59, s169_62, s169_63, s169_64, s169_67, s169_68, s169_70, s169_73, s169_74, s169_75, s169_78, s169_79, s169_82, s169_83, s169_86, s169_89, s169_91, s169_92, s169_95, s169_98, s169_99, ai_73 HM, ai_97 HM, ai_99 HM, az_72 HM, gr_65_10 HM, gr_65_46 HM, gr_65_48 HM, gr_65_9 HM, gt_65 HM, am169, isRf_ref, true_and, and_true, aPs_s, aPs_n, b01_0, b01_1, nI_clamp, ix_nI, inb_nI, lt_nI, eq_nI, nn_nI, eq0_nI, pk_mul, nI_add, lt_T, lt_F, if_true, if_false, true_and, and_true, neg1_nI, neg1_lt, neg1_neg, lt_neg1, eqN_F, eq_self,  h1, h2, h3, h4, Bool.not_false, Bool.not_true, Bool.true_and, Bool.false_and, Bool.and_true, Bool.and_false, Bool.or_true, Bool.or_false, Bool.true_or, Bool.false_or, Bool.true_eq_false, Bool.false_eq_true, if_true, if_false, Option.isSome_some, Option.isSome_none, Option.isNone_some, Option.isNone_none, zB_t, zB_f, nI1_0, nI0_0, oI, ovB, c154', h5, decide_true, decide_false]
          · simp only [h1, h2, h3, h4, Bool.not_false, Bool.not_true, Bool.true_and, Bool.false_and, Bool.and_true, Bool.and_false, Bool.or_true, Bool.or_false, Bool.true_or, Bool.false_or, Bool.true_eq_false, Bool.false_eq_true, if_true, if_false, Option.isSome_some, Option.isSome_none, Option.isNone_some, Option.isNone_none, zB_t, zB_f, nI1_0, nI0_0]
        · simp only [h1, h2, h3, Bool.not_false, Bool.not_true, Bool.true_and, Bool.false_and, Bool.and_true, Bool.and_false, Bool.or_true, Bool.or_false, Bool.true_or, Bool.false_or, Bool.true_eq_false, Bool.false_eq_true, if_true, if_false, Option.isSome_some, Option.isSome_none, Option.isNone_some, Option.isNone_none, zB_t, zB_f, nI1_0, nI0_0]
      · simp only [h1, h2, Bool.not_false, Bool.not_true, Bool.true_and, Bool.false_and, Bool.and_true, Bool.and_false, Bool.or_true, Bool.or_false, Bool.true_or, Bool.false_or, Bool.true_eq_false, Bool.false_eq_true, if_true, if_false, Option.isSome_some, Option.isSome_none, Option.isNone_some, Option.isNone_none, zB_t, zB_f, nI1_0, nI0_0]
    · simp only [h1, Bool.not_false, Bool.not_true, Bool.true_and, Bool.false_and, Bool.and_true, Bool.and_false, Bool.or_true, Bool.or_false, Bool.true_or, Bool.false_or, Bool.true_eq_false, Bool.false_eq_true, if_true, if_false, Option.isSome_some, Option.isSome_none, Option.isNone_some, Option.isNone_none, zB_t, zB_f, nI1_0, nI0_0])
  simp (disch := first | omega | assumption | exact gt_65 HM) only [s169_0, s169_1, s169_4, s169_5, s169_6, s169_7, s169_8, s169_9, s169_10, s169_14, s169_16, s169_19, s169_20, s169_23, s169_24, s169_25, s169_28, s169_31, s169_32, s169_33, s169_35, s169_38, s169_41, s169_42, s169_45, s169_47, s169_48, s169_49, s169_52, s169_53, s169_56, s169_58, s169_59, s169_62, s169_63, s169_64, s169_67, s169_68, s169_70, s169_73, s169_74, s169_75, s169_78, s169_79, s169_82, s169_83, s169_86, s169_89, s169_91, s169_92, s169_95, s169_98, s169_99, ai_73 HM, ai_97 HM, ai_99 HM, az_72 HM, gr_65_10 HM, gr_65_46 HM, gr_65_48 HM, gr_65_9 HM, gt_65 HM, am169, isRf_ref, true_and, and_true, aPs_s, aPs_n, b01_0, b01_1, nI_clamp, ix_nI, inb_nI, lt_nI, eq_nI, nn_nI, eq0_nI, pk_mul, nI_add, lt_T, lt_F, if_true, if_false, true_and, and_true, neg1_nI, neg1_lt, neg1_neg, lt_neg1, eqN_F, eq_self,  o1]
  exact loop
set_option maxHeartbeats 4000000 in
theorem c170 (HM : KM h) {P : Nat → Nat → Int32} (hP : pv h = P) (V : okP P) {o : Nat → Nat} (O : ovH h P o) {k : Nat} (hk : k < nS P) : aM (d + 2) 170 [.ref 65, .int (nI k)] h Q = Q (some (.int (nI (zLd P o k)))) h := by
  obtain ⟨o1, o2⟩ := O.1 k hk
  have s10 := V.s.1
  have e75 : gI h 75 (o k) = nI (nWt P (o k)) := hW hP V o2
  have hw12 := (V.w o2).2
  have hz := (zC_ok V o2).2
  have c165' : ∀ b, b < 12 → ∀ Q', aM (d + 1) 165 [.ref 65, .int (nI b), .int (nI k)] h Q' = Q' (some (.int (zB (mAl P o b k)))) h := fun b hb Q' => c165 HM hP V O hb (by omega)
  have c154' : ∀ b, b < 12 → ∀ Q', aM (d + 1) 154 [.ref 65, .int (nI b)] h Q' = Q' (some (.int (nI (zS P b)))) h := fun b hb Q' => c154n HM hP hb V
  have c169' : ∀ Q', aM (d + 1) 169 [.ref 65, .int (nI k)] h Q' = Q' (some (.int (oI (mOv P o k)))) h := fun Q' => c169 HM hP V O hk
  have c159' : ∀ Q', aM (d + 1) 159 [.ref 65, .int (nI (o k))] h Q' = Q' (some (.int (nI (zC P (o k))))) h := fun Q' => c159n HM hP o2 V
  have loop := for_0 (F := fun b => aW (d + 2) 170 13 [.ref 65, .int (nI k), .int (nI (zC P (o k) + zAl P o k b)), .int (nI b), .retAddr 0, .retAddr 0] [] h Q) (R := Q (some (.int (nI (zLd P o k)))) h) 12 (by
    rw [s170_13]
    unfold zLd
    have hal := zAl_le V (o := o) (k := k) (Nat.le_refl 12)
    cases hx : mOv P o k with
    | none =>
      simp (disch := first | omega | assumption | exact gt_65 HM) only [s170_0, s170_1, s170_2, s170_5, s170_6, s170_7, s170_10, s170_11, s170_12, s170_14, s170_16, s170_19, s170_20, s170_21, s170_22, s170_23, s170_26, s170_29, s170_30, s170_31, s170_34, s170_37, s170_38, s170_39, s170_40, s170_43, s170_46, s170_47, s170_48, s170_51, s170_52, s170_53, s170_54, s170_57, s170_58, s170_59, s170_62, s170_64, s170_65, s170_66, s170_69, s170_70, s170_73, s170_74, s170_75, s170_76, s170_79, s170_81, s170_82, s170_84, s170_86, s170_89, s170_91, s170_94, s170_96, s170_97, s170_98, s170_99, ai_75 HM, ai_97 HM, gr_65_12 HM, gr_65_46 HM, gt_65 HM, am170, isRf_ref, true_and, and_true, aPs_s, aPs_n, b01_0, b01_1, nI_clamp, ix_nI, inb_nI, lt_nI, eq_nI, nn_nI, eq0_nI, pk_mul, nI_add, lt_T, lt_F, if_true, if_false, true_and, and_true, neg1_nI, neg1_lt, neg1_neg, lt_neg1, eqN_F, eq_self,  c169', hx, oI, Nat.sub_zero]
    | some x =>
      have hx2 := mOvN_ok hx
      have hx12 := hx2.1
      have hge := zAl_ge (ovC_al hx2.2) hx12
      have hs1 := (zS_ok V hx12).2
      have hs2 := (zS_ok V hw12).2
      simp (disch := first | omega | assumption | exact gt_65 HM) only [s170_0, s170_1, s170_2, s170_5, s170_6, s170_7, s170_10, s170_11, s170_12, s170_14, s170_16, s170_19, s170_20, s170_21, s170_22, s170_23, s170_26, s170_29, s170_30, s170_31, s170_34, s170_37, s170_38, s170_39, s170_40, s170_43, s170_46, s170_47, s170_48, s170_51, s170_52, s170_53, s170_54, s170_57, s170_58, s170_59, s170_62, s170_64, s170_65, s170_66, s170_69, s170_70, s170_73, s170_74, s170_75, s170_76, s170_79, s170_81, s170_82, s170_84, s170_86, s170_89, s170_91, s170_94, s170_96, s170_97, s170_98, s170_99, ai_75 HM, ai_97 HM, gr_65_12 HM, gr_65_46 HM, gt_65 HM, am170, isRf_ref, true_and, and_true, aPs_s, aPs_n, b01_0, b01_1, nI_clamp, ix_nI, inb_nI, lt_nI, eq_nI, nn_nI, eq0_nI, pk_mul, nI_add, lt_T, lt_F, if_true, if_false, true_and, and_true, neg1_nI, neg1_lt, neg1_neg, lt_neg1, eqN_F, eq_self,  c169', hx, oI, c154', o1, e75, hx12, hw12]
      by_cases h5 : zS P x < zS P (nWt P (o k))
      · simp (disch := first | omega | assumption | exact gt_65 HM) only [s170_0, s170_1, s170_2, s170_5, s170_6, s170_7, s170_10, s170_11, s170_12, s170_14, s170_16, s170_19, s170_20, s170_21, s170_22, s170_23, s170_26, s170_29, s170_30, s170_31, s170_34, s170_37, s170_38, s170_39, s170_40, s170_43, s170_46, s170_47, s170_48, s170_51, s170_52, s170_53, s170_54, s170_57, s170_58, s170_59, s170_62, s170_64, s170_65, s170_66, s170_69, s170_70, s170_73, s170_74, s170_75, s170_76, s170_79, s170_81, s170_82, s170_84, s170_86, s170_89, s170_91, s170_94, s170_96, s170_97, s170_98, s170_99, ai_75 HM, ai_97 HM, gr_65_12 HM, gr_65_46 HM, gt_65 HM, am170, isRf_ref, true_and, and_true, aPs_s, aPs_n, b01_0, b01_1, nI_clamp, ix_nI, inb_nI, lt_nI, eq_nI, nn_nI, eq0_nI, pk_mul, nI_add, lt_T, lt_F, if_true, if_false, true_and, and_true, neg1_nI, neg1_lt, neg1_neg, lt_neg1, eqN_F, eq_self,  h5]
        exact congrArg (fun z => Q (some (.int z)) h) (pk_sub (by omega))
      · simp (disch := first | omega | assumption | exact gt_65 HM) only [s170_0, s170_1, s170_2, s170_5, s170_6, s170_7, s170_10, s170_11, s170_12, s170_14, s170_16, s170_19, s170_20, s170_21, s170_22, s170_23, s170_26, s170_29, s170_30, s170_31, s170_34, s170_37, s170_38, s170_39, s170_40, s170_43, s170_46, s170_47, s170_48, s170_51, s170_52, s170_53, s170_54, s170_57, s170_58, s170_59, s170_62, s170_64, s170_65, s170_66, s170_69, s170_70, s170_73, s170_74, s170_75, s170_76, s170_79, s170_81, s170_82, s170_84, s170_86, s170_89, s170_91, s170_94, s170_96, s170_97, s170_98, s170_99, ai_75 HM, ai_97 HM, gr_65_12 HM, gr_65_46 HM, gt_65 HM, am170, isRf_ref, true_and, and_true, aPs_s, aPs_n, b01_0, b01_1, nI_clamp, ix_nI, inb_nI, lt_nI, eq_nI, nn_nI, eq0_nI, pk_mul, nI_add, lt_T, lt_F, if_true, if_false, true_and, and_true, neg1_nI, neg1_lt, neg1_neg, lt_neg1, eqN_F, eq_self,  h5]
        exact congrArg (fun z => Q (some (.int z)) h) (pk_sub (by omega))) (fun b hb => by
    have hzb := (zS_ok V hb).2
    rw [s170_13]
    simp (disch := first | omega | assumption | exact gt_65 HM) only [s170_0, s170_1, s170_2, s170_5, s170_6, s170_7, s170_10, s170_11, s170_12, s170_14, s170_16, s170_19, s170_20, s170_21, s170_22, s170_23, s170_26, s170_29, s170_30, s170_31, s170_34, s170_37, s170_38, s170_39, s170_40, s170_43, s170_46, s170_47, s170_48, s170_51, s170_52, s170_53, s170_54, s170_57, s170_58, s170_59, s170_62, s170_64, s170_65, s170_66, s170_69, s170_70, s170_73, s170_74, s170_75, s170_76, s170_79, s170_81, s170_82, s170_84, s170_86, s170_89, s170_91, s170_94, s170_96, s170_97, s170_98, s170_99, ai_75 HM, ai_97 HM, gr_65_12 HM, gr_65_46 HM, gt_65 HM, am170, isRf_ref, true_and, and_true, aPs_s, aPs_n, b01_0, b01_1, nI_clamp, ix_nI, inb_nI, lt_nI, eq_nI, nn_nI, eq0_nI, pk_mul, nI_add, lt_T, lt_F, if_true, if_false, true_and, and_true, neg1_nI, neg1_lt, neg1_neg, lt_neg1, eqN_F, eq_self,  c165', c154', hb, zB_0]
    rw [zAl]
    rcases Bool.eq_false_or_eq_true (mAl P o b k) with h1 | h1
    · simp (disch := first | omega | assumption | exact gt_65 HM) only [s170_0, s170_1, s170_2, s170_5, s170_6, s170_7, s170_10, s170_11, s170_12, s170_14, s170_16, s170_19, s170_20, s170_21, s170_22, s170_23, s170_26, s170_29, s170_30, s170_31, s170_34, s170_37, s170_38, s170_39, s170_40, s170_43, s170_46, s170_47, s170_48, s170_51, s170_52, s170_53, s170_54, s170_57, s170_58, s170_59, s170_62, s170_64, s170_65, s170_66, s170_69, s170_70, s170_73, s170_74, s170_75, s170_76, s170_79, s170_81, s170_82, s170_84, s170_86, s170_89, s170_91, s170_94, s170_96, s170_97, s170_98, s170_99, ai_75 HM, ai_97 HM, gr_65_12 HM, gr_65_46 HM, gt_65 HM, am170, isRf_ref, true_and, and_true, aPs_s, aPs_n, b01_0, b01_1, nI_clamp, ix_nI, inb_nI, lt_nI, eq_nI, nn_nI, eq0_nI, pk_mul, nI_add, lt_T, lt_F, if_true, if_false, true_and, and_true, neg1_nI, neg1_lt, neg1_neg, lt_neg1, eqN_F, eq_self,  h1, Bool.not_false, Bool.not_true, Bool.true_and, Bool.false_and, Bool.and_true, Bool.and_false, Bool.or_true, Bool.or_false, Bool.true_or, Bool.false_or, Bool.true_eq_false, Bool.false_eq_true, if_true, if_false, Option.isSome_some, Option.isSome_none, Option.isNone_some, Option.isNone_none, zB_t, zB_f, nI1_0, nI0_0, c154', hb, Nat.add_assoc]
    · simp (disch := first | omega | assumption | exact gt_65 HM) only [s170_0, s170_1, s170_2, s170_5, s170_6, s170_7, s170_10, s170_11, s170_12, s170_14, s170_16, s170_19, s170_20, s170_21, s170_22, s170_23, s170_26, s170_29, s170_30, s170_31, s170_34, s170_37, s170_38, s170_39, s170_40, s170_43, s170_46, s170_47, s170_48, s170_51, s170_52, s170_53, s170_54, s170_57, s170_58, s170_59, s170_62, s170_64, s170_65, s170_66, s170_69, s170_70, s170_73, s170_74, s170_75, s170_76, s170_79, s170_81, s170_82, s170_84, s170_86, s170_89, s170_91, s170_94, s170_96, s170_97, s170_98, s170_99, ai_75 HM, ai_97 HM, gr_65_12 HM, gr_65_46 HM, gt_65 HM, am170, isRf_ref, true_and, and_true, aPs_s, aPs_n, b01_0, b01_1, nI_clamp, ix_nI, inb_nI, lt_nI, eq_nI, nn_nI, eq0_nI, pk_mul, nI_add, lt_T, lt_F, if_true, if_false, true_and, and_true, neg1_nI, neg1_lt, neg1_neg, lt_neg1, eqN_F, eq_self,  h1, Bool.not_false, Bool.not_true, Bool.true_and, Bool.false_and, Bool.and_true, Bool.and_false, Bool.or_true, Bool.or_false, Bool.true_or, Bool.false_or, Bool.true_eq_false, Bool.false_eq_true, if_true, if_false, Option.isSome_some, Option.isSome_none, Option.isNone_some, Option.isNone_none, zB_t, zB_f, nI1_0, nI0_0, Nat.add_zero])
  simp (disch := first | omega | assumption | exact gt_65 HM) only [s170_0, s170_1, s170_2, s170_5, s170_6, s170_7, s170_10, s170_11, s170_12, s170_14, s170_16, s170_19, s170_20, s170_21, s170_22, s170_23, s170_26, s170_29, s170_30, s170_31, s170_34, s170_37, s170_38, s170_39, s170_40, s170_43, s170_46, s170_47, s170_48, s170_51, s170_52, s170_53, s170_54, s170_57, s170_58, s170_59, s170_62, s170_64, s170_65, s170_66, s170_69, s170_70, s170_73, s170_74, s170_75, s170_76, s170_79, s170_81, s170_82, s170_84, s170_86, s170_89, s170_91, s170_94, s170_96, s170_97, s170_98, s170_99, ai_75 HM, ai_97 HM, gr_65_12 HM, gr_65_46 HM, gt_65 HM, am170, isRf_ref, true_and, and_true, aPs_s, aPs_n, b01_0, b01_1, nI_clamp, ix_nI, inb_nI, lt_nI, eq_nI, nn_nI, eq0_nI, pk_mul, nI_add, lt_T, lt_F, if_true, if_false, true_and, and_true, neg1_nI, neg1_lt, neg1_neg, lt_neg1, eqN_F, eq_self,  o1, c159']
  exact loop
end M5
