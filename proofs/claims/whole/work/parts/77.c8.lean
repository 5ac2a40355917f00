/-! THE CLASS: what THE ORDER tells -/
theorem sh_iv {P : Nat → Nat → Int32} {o : Nat → Nat} {a b : Nat} : shB P o a b = (match ti P o a with
    | none => false
    | some t => match ti P o b with
      | none => false
      | some u => decide (fr P o a ≤ u) && decide (fr P o b ≤ t)) := by
  have key : shB P o a b = true ↔ ∃ k, k < nS P ∧ mAl P o a k = true ∧ mAl P o b k = true := by
    unfold shB
    constructor
    · intro h
      obtain ⟨i, _, h2, h3⟩ := fst1_some h
      rw [Bool.and_eq_true] at h3
      exact ⟨i, by omega, h3.1, h3.2⟩
    · rintro ⟨k, h1, h2, h3⟩
      exact fst1_is (i := k) (Nat.zero_le _) (by omega) (by rw [h2, h3]; rfl)
  have al : ∀ x k, mAl P o x k = true ↔ ∃ t, ti P o x = some t ∧ fr P o x ≤ k ∧ k ≤ t := by
    intro x k
    unfold mAl
    cases ti P o x with
    | none =>
      constructor
      · intro h; cases h
      · rintro ⟨t, h, _⟩; cases h
    | some t =>
      simp only
      rw [Bool.and_eq_true, decide_eq_true_iff, decide_eq_true_iff]
      constructor
      · rintro ⟨h1, h2⟩; exact ⟨t, rfl, h1, h2⟩
      · rintro ⟨t', h, h1, h2⟩; cases h; exact ⟨h1, h2⟩
  rw [Bool.eq_iff_iff, key]
  cases ha : ti P o a with
  | none =>
    constructor
    · rintro ⟨k, _, h1, _⟩
      obtain ⟨t, h, _⟩ := (al a k).mp h1
      rw [ha] at h; cases h
    · intro h; cases h
  | some t =>
    cases hb : ti P o b with
    | none =>
      constructor
      · rintro ⟨k, _, _, h1⟩
        obtain ⟨t, h, _⟩ := (al b k).mp h1
        rw [hb] at h; cases h
      · intro h; cases h
    | some u =>
      have f1 := fr_ti ha
      have f2 := fr_ti hb
      simp only
      rw [Bool.and_eq_true, decide_eq_true_iff, decide_eq_true_iff]
      constructor
      · rintro ⟨k, _, h1, h2⟩
        obtain ⟨t', h, h3, h4⟩ := (al a k).mp h1
        rw [ha] at h; cases h
        obtain ⟨u', h, h5, h6⟩ := (al b k).mp h2
        rw [hb] at h; cases h
        omega
      · rintro ⟨h1, h2⟩
        by_cases h3 : fr P o a ≤ fr P o b
        · exact ⟨fr P o b, by omega, (al a _).mpr ⟨t, ha, h3, h2⟩, (al b _).mpr ⟨u, hb, Nat.le_refl _, f2.1⟩⟩
        · exact ⟨fr P o a, by omega, (al a _).mpr ⟨t, ha, Nat.le_refl _, f1.1⟩, (al b _).mpr ⟨u, hb, by omega, h1⟩⟩
theorem mAl_iv {P : Nat → Nat → Int32} {o : Nat → Nat} {x k t : Nat} (h : ti P o x = some t) : mAl P o x k = (decide (fr P o x ≤ k) && decide (k ≤ t)) := by
  unfold mAl
  rw [h]
/-- the places at which both of two are ALIVE, the last one -/
theorem clN_iv {P : Nat → Nat → Int32} {o : Nat → Nat} {a b t u f l : Nat} (ha : ti P o a = some t) (hb : ti P o b = some u) (hf : f = if fr P o a < fr P o b then fr P o b else fr P o a) (hl : l = if u < t then u else t) : ∀ {n : Nat}, clN P o a b n = (if n ≤ f ∨ l < f then 0 else if n ≤ l then n - f else l + 1 - f, if n ≤ f ∨ l < f then none else if n ≤ l then some (n - 1) else some l) := by
  intro n
  induction n with
  | zero =>
    rw [clN, if_pos (by omega), if_pos (by omega)]
  | succ n ih =>
    have e : (mAl P o a n && mAl P o b n) = (decide (f ≤ n) && decide (n ≤ l)) := by
      rw [mAl_iv ha, mAl_iv hb, Bool.eq_iff_iff]
      simp only [Bool.and_eq_true, decide_eq_true_iff]
      subst hf
      subst hl
      split <;> split <;> omega
    rw [clN, ih]
    by_cases h1 : f ≤ n ∧ n ≤ l
    · rw [if_pos (by rw [e, decide_eq_true h1.1, decide_eq_true h1.2]; rfl)]
      have q1 : (if n ≤ f ∨ l < f then 0 else if n ≤ l then n - f else l + 1 - f) = n - f := by
        by_cases h2 : n ≤ f ∨ l < f
        · rw [if_pos h2]; omega
        · rw [if_neg h2, if_pos h1.2]
      have q2 : (if n + 1 ≤ f ∨ l < f then 0 else if n + 1 ≤ l then n + 1 - f else l + 1 - f) = n + 1 - f := by
        rw [if_neg (show ¬ (n + 1 ≤ f ∨ l < f) by omega)]
        by_cases h3 : n + 1 ≤ l
        · rw [if_pos h3]
        · rw [if_neg h3]; omega
      have q3 : (if n + 1 ≤ f ∨ l < f then none else if n + 1 ≤ l then some (n + 1 - 1) else some l) = some n := by
        rw [if_neg (show ¬ (n + 1 ≤ f ∨ l < f) by omega)]
        by_cases h3 : n + 1 ≤ l
        · rw [if_pos h3]; rfl
        · rw [if_neg h3]; congr 1; omega
      simp only [q1, q2, q3]
      congr 1
      omega
    · rw [if_neg (by rw [e, Bool.and_eq_true, decide_eq_true_iff, decide_eq_true_iff]; exact h1)]
      by_cases h2 : n ≤ f ∨ l < f
      · by_cases h3 : n + 1 ≤ f ∨ l < f
        · rw [if_pos h2, if_pos h2, if_pos h3, if_pos h3]
        · omega
      · rw [if_neg h2, if_neg h2, if_neg (show ¬ n ≤ l by omega), if_neg (show ¬ n ≤ l by omega), if_neg (show ¬ (n + 1 ≤ f ∨ l < f) by omega), if_neg (show ¬ (n + 1 ≤ f ∨ l < f) by omega), if_neg (show ¬ n + 1 ≤ l by omega), if_neg (show ¬ n + 1 ≤ l by omega)]
/-- idle places, as bits -/
def idM (P : Nat → Nat → Int32) (o : Nat → Nat) (b : Nat) : Nat → Nat
  | 0 => 0
  | k + 1 => if ioB P o b k = true then idM P o b k ||| 2 ^ k else idM P o b k
theorem idM_lt {P : Nat → Nat → Int32} {o : Nat → Nat} {b : Nat} : ∀ {n : Nat}, idM P o b n < 2 ^ n := by
  intro n
  induction n with
  | zero => exact (by decide : 0 < 2 ^ 0)
  | succ n ih =>
    rw [idM]
    have h2 : idM P o b n < 2 ^ (n + 1) := Nat.lt_of_lt_of_le ih (Nat.pow_le_pow_right (by decide) (by omega))
    split
    · exact or_lt h2 (by omega)
    · exact h2
theorem idM_0 {P : Nat → Nat → Int32} {o : Nat → Nat} {b : Nat} : ∀ {n : Nat}, (∀ k, k < n → mAl P o b k = false) → idM P o b n = 0 := by
  intro n
  induction n with
  | zero => intro _; rfl
  | succ n ih =>
    intro h
    rw [idM, ih (fun k hk => h k (by omega)), if_neg]
    unfold ioB
    rw [h n (by omega)]
    simp
theorem idM_end {P : Nat → Nat → Int32} {o : Nat → Nat} {b t : Nat} (h : ∀ k, t < k → mAl P o b k = false) : ∀ {n : Nat}, t + 1 ≤ n → idM P o b n = idM P o b (t + 1) := by
  intro n hn
  obtain ⟨j, rfl⟩ := Nat.exists_eq_add_of_le hn
  clear hn
  induction j with
  | zero => rfl
  | succ j ih =>
    rw [show t + 1 + (j + 1) = (t + 1 + j) + 1 by omega, idM, ih, if_neg]
    unfold ioB
    rw [h _ (by omega)]
    simp
section C8
variable {d p : Nat} {h : abH} {Q : Option Value → abH → Prop}
/-- what a heap shows of a SHEET -/
def SH (h : abH) (s z : Nat) (c : Nat → Int32) : Prop := gI h (57 + 2 * s) 1 = nI z ∧ ∀ k, k < 40 → gI h (58 + 2 * s) k = c k
set_option maxHeartbeats 4000000 in
theorem c83 (H : KC h) (hp : p = 5 ∨ p = 17) {P : Nat → Nat → Int32} (V : okP P) (C : CP h p P) {s : Nat} (hs : s < 4) {c : Nat → Int32} (S : SH h s (nS P) c) : aM (d + 1) 83 [.ref 29, .ref p, .ref (57 + 2 * s)] h Q = Q (some (.int (oI (oFl P c 0)))) h := by
  have s10 := V.s.1
  have e4 := C.s
  obtain ⟨S1, S2⟩ := S
  have loop : ∀ (n k D : Nat) (x : Value), k + n = nS P → oCk P c k = some D → aW (d + 1) 83 5 [.ref 29, .ref p, .ref (57 + 2 * s), .int (nI D), .int (nI k), x] [] h Q = Q (some (.int (oI (oFl P c k)))) h := by
    intro n
    induction n with
    | zero =>
      intro k D x hk ho
      have hk : k = nS P := by omega
      subst hk
      rw [s83_5]
      unfold oFl
      rw [fst1_end]
      simp (disch := first | omega | assumption | exact gtP H hp | exact gtS H hs | (simp only [gT_pA, gT_pI, gT_pR]; first | assumption | exact gtP H hp | exact gtS H hs) | fail) only [s83_0, s83_1, s83_2, s83_3, s83_7, s83_8, s83_11, s83_14, s83_15, s83_18, s83_20, s83_21, s83_23, s83_24, s83_26, s83_29, s83_32, s83_33, s83_35, s83_36, s83_37, s83_38, s83_41, s83_42, s83_44, s83_45, s83_48, s83_51, s83_53, s83_54, s83_55, s83_56, s83_58, s83_59, s83_60, s83_61, s83_64, s83_67, s83_68, aiS H hs, grS2 H hs, gtP H hp, gtS H hs, am83, isRf_ref, true_and, and_true, aPs_s, aPs_n, b01_0, b01_1, nI_clamp, ix_nI, inb_nI, lt_nI, eq_nI, nn_nI, eq0_nI, pk_mul, nI_add, lt_T, lt_F, if_true, if_false, true_and, and_true, neg1_nI, neg1_lt, neg1_neg, lt_neg1, eqN_F, eq_self,  S1, Nat.lt_irrefl, oI_n]
    | succ n ih =>
      intro k D x hk ho
      have hk2 : k < nS P := by omega
      have hk40 : k < 40 := by omega
      have ck := S2 k hk40
      have hD := oCk_lt ho
      have hD10 : D < 1024 := Nat.lt_of_lt_of_le hD (Nat.pow_le_pow_right (n := 2) (by decide) s10)
      have ofl : oFl P c k = if (oCk P c (k + 1)).isNone = true then some k else oFl P c (k + 1) := by unfold oFl; rw [fst1_step hk2]
      have on : oCk P c (k + 1) = (match plc (c k) (nS P) with
        | none => none
        | some v => if mRdy P v D = true then some (D ||| 2 ^ v) else none) := by rw [oCk, ho]; cases plc (c k) (nS P) <;> rfl
      have c45' : ∀ Q', aM d 45 [.ref p, .int (c k)] h Q' = Q' (some (.int (zB (plc (c k) (nS P)).isSome))) h := fun Q' => c45 H hp (by omega) e4
      rw [s83_5, ofl]
      rcases plc_cases (c k) (nS P) (by omega) with ⟨v, hv, ev, e⟩ | ⟨e, _⟩ | ⟨e, _⟩
      · rw [e] at on c45'
        rw [ev] at ck c45'
        have c54' : ∀ Q', aM d 54 [.ref p, .int (nI v), .int (nI D)] h Q' = Q' (some (.int (zB (mRy P v D)))) h := fun Q' => c54 H hp C V hv hD10
        simp only [mRdy_eq] at on
        rcases Bool.eq_false_or_eq_true (tb D v) with g1 | g1
        · simp only [g1, Bool.not_false, Bool.not_true, Bool.true_and, Bool.false_and, Bool.and_true, Bool.and_false, Bool.or_true, Bool.or_false, Bool.true_or, Bool.false_or, Bool.true_eq_false, Bool.false_eq_true, if_true, if_false, Option.isSome_some, Option.isSome_none, Option.isNone_some, Option.isNone_none, zB_t, zB_f, nI1_0, nI0_0] at on
          rw [on]
          simp (disch := first | omega | assumption | exact gtP H hp | exact gtS H hs | (simp only [gT_pA, gT_pI, gT_pR]; first | assumption | exact gtP H hp | exact gtS H hs) | fail) only [s83_0, s83_1, s83_2, s83_3, s83_7, s83_8, s83_11, s83_14, s83_15, s83_18, s83_20, s83_21, s83_23, s83_24, s83_26, s83_29, s83_32, s83_33, s83_35, s83_36, s83_37, s83_38, s83_41, s83_42, s83_44, s83_45, s83_48, s83_51, s83_53, s83_54, s83_55, s83_56, s83_58, s83_59, s83_60, s83_61, s83_64, s83_67, s83_68, aiS H hs, grS2 H hs, gtP H hp, gtS H hs, am83, isRf_ref, true_and, and_true, aPs_s, aPs_n, b01_0, b01_1, nI_clamp, ix_nI, inb_nI, lt_nI, eq_nI, nn_nI, eq0_nI, pk_mul, nI_add, lt_T, lt_F, if_true, if_false, true_and, and_true, neg1_nI, neg1_lt, neg1_neg, lt_neg1, eqN_F, eq_self,  S1, hk2, ck, c45', bit_0, g1, Bool.not_false, Bool.not_true, Bool.true_and, Bool.false_and, Bool.and_true, Bool.and_false, Bool.or_true, Bool.or_false, Bool.true_or, Bool.false_or, Bool.true_eq_false, Bool.false_eq_true, if_true, if_false, Option.isSome_some, Option.isSome_none, Option.isNone_some, Option.isNone_none, zB_t, zB_f, nI1_0, nI0_0, oI_s]
        · rcases Bool.eq_false_or_eq_true (mRy P v D) with g2 | g2
          · simp only [g1, g2, Bool.not_false, Bool.not_true, Bool.true_and, Bool.false_and, Bool.and_true, Bool.and_false, Bool.or_true, Bool.or_false, Bool.true_or, Bool.false_or, Bool.true_eq_false, Bool.false_eq_true, if_true, if_false, Option.isSome_some, Option.isSome_none, Option.isNone_some, Option.isNone_none, zB_t, zB_f, nI1_0, nI0_0] at on
            have ih2 := fun x => ih (k + 1) (D ||| 2 ^ v) x (by omega) on
            rw [on]
            simp (disch := first | omega | assumption | exact gtP H hp | exact gtS H hs | (simp only [gT_pA, gT_pI, gT_pR]; first | assumption | exact gtP H hp | exact gtS H hs) | fail) only [s83_0, s83_1, s83_2, s83_3, s83_7, s83_8, s83_11, s83_14, s83_15, s83_18, s83_20, s83_21, s83_23, s83_24, s83_26, s83_29, s83_32, s83_33, s83_35, s83_36, s83_37, s83_38, s83_41, s83_42, s83_44, s83_45, s83_48, s83_51, s83_53, s83_54, s83_55, s83_56, s83_58, s83_59, s83_60, s83_61, s83_64, s83_67, s83_68, aiS H hs, grS2 H hs, gtP H hp, gtS H hs, am83, isRf_ref, true_and, and_true, aPs_s, aPs_n, b01_0, b01_1, nI_clamp, ix_nI, inb_nI, lt_nI, eq_nI, nn_nI, eq0_nI, pk_mul, nI_add, lt_T, lt_F, if_true, if_false, true_and, and_true, neg1_nI, neg1_lt, neg1_neg, lt_neg1, eqN_F, eq_self,  S1, hk2, ck, c45', bit_0, g1, Bool.not_false, Bool.not_true, Bool.true_and, Bool.false_and, Bool.and_true, Bool.and_false, Bool.or_true, Bool.or_false, Bool.true_or, Bool.false_or, Bool.true_eq_false, Bool.false_eq_true, if_true, if_false, Option.isSome_some, Option.isSome_none, Option.isNone_some, Option.isNone_none, zB_t, zB_f, nI1_0, nI0_0, c54', g2, nI_bit, ih2]
          · simp only [g1, g2, Bool.not_false, Bool.not_true, Bool.true_and, Bool.false_and, Bool.and_true, Bool.and_false, Bool.or_true, Bool.or_false, Bool.true_or, Bool.false_or, Bool.true_eq_false, Bool.false_eq_true, if_true, if_false, Option.isSome_some, Option.isSome_none, Option.isNone_some, Option.isNone_none, zB_t, zB_f, nI1_0, nI0_0] at on
            rw [on]
            simp (disch := first | omega | assumption | exact gtP H hp | exact gtS H hs | (simp only [gT_pA, gT_pI, gT_pR]; first | assumption | exact gtP H hp | exact gtS H hs) | fail) only [s83_0, s83_1, s83_2, s83_3, s83_7, s83_8, s83_11, s83_14, s83_15, s83_18, s83_20, s83_21, s83_23, s83_24, s83_26, s83_29, s83_32, s83_33, s83_35, s83_36, s83_37, s83_38, s83_41, s83_42, s83_44, s83_45, s83_48, s83_51, s83_53, s83_54, s83_55, s83_56, s83_58, s83_59, s83_60, s83_61, s83_64, s83_67, s83_68, aiS H hs, grS2 H hs, gtP H hp, gtS H hs, am83, isRf_ref, true_and, and_true, aPs_s, aPs_n, b01_0, b01_1, nI_clamp, ix_nI, inb_nI, lt_nI, eq_nI, nn_nI, eq0_nI, pk_mul, nI_add, lt_T, lt_F, if_true, if_false, true_and, and_true, neg1_nI, neg1_lt, neg1_neg, lt_neg1, eqN_F, eq_self,  S1, hk2, ck, c45', bit_0, g1, Bool.not_false, Bool.not_true, Bool.true_and, Bool.false_and, Bool.and_true, Bool.and_false, Bool.or_true, Bool.or_false, Bool.true_or, Bool.false_or, Bool.true_eq_false, Bool.false_eq_true, if_true, if_false, Option.isSome_some, Option.isSome_none, Option.isNone_some, Option.isNone_none, zB_t, zB_f, nI1_0, nI0_0, c54', g2, oI_s]
      · rw [e] at on c45'
        rw [on]
        simp (disch := first | omega | assumption | exact gtP H hp | exact gtS H hs | (simp only [gT_pA, gT_pI, gT_pR]; first | assumption | exact gtP H hp | exact gtS H hs) | fail) only [s83_0, s83_1, s83_2, s83_3, s83_7, s83_8, s83_11, s83_14, s83_15, s83_18, s83_20, s83_21, s83_23, s83_24, s83_26, s83_29, s83_32, s83_33, s83_35, s83_36, s83_37, s83_38, s83_41, s83_42, s83_44, s83_45, s83_48, s83_51, s83_53, s83_54, s83_55, s83_56, s83_58, s83_59, s83_60, s83_61, s83_64, s83_67, s83_68, aiS H hs, grS2 H hs, gtP H hp, gtS H hs, am83, isRf_ref, true_and, and_true, aPs_s, aPs_n, b01_0, b01_1, nI_clamp, ix_nI, inb_nI, lt_nI, eq_nI, nn_nI, eq0_nI, pk_mul, nI_add, lt_T, lt_F, if_true, if_false, true_and, and_true, neg1_nI, neg1_lt, neg1_neg, lt_neg1, eqN_F, eq_self,  S1, hk2, ck, c45', Bool.not_false, Bool.not_true, Bool.true_and, Bool.false_and, Bool.and_true, Bool.and_false, Bool.or_true, Bool.or_false, Bool.true_or, Bool.false_or, Bool.true_eq_false, Bool.false_eq_true, if_true, if_false, Option.isSome_some, Option.isSome_none, Option.isNone_some, Option.isNone_none, zB_t, zB_f, nI1_0, nI0_0, oI_s]
      · rw [e] at on c45'
        rw [on]
        simp (disch := first | omega | assumption | exact gtP H hp | exact gtS H hs | (simp only [gT_pA, gT_pI, gT_pR]; first | assumption | exact gtP H hp | exact gtS H hs) | fail) only [s83_0, s83_1, s83_2, s83_3, s83_7, s83_8, s83_11, s83_14, s83_15, s83_18, s83_20, s83_21, s83_23, s83_24, s83_26, s83_29, s83_32, s83_33, s83_35, s83_36, s83_37, s83_38, s83_41, s83_42, s83_44, s83_45, s83_48, s83_51, s83_53, s83_54, s83_55, s83_56, s83_58, s83_59, s83_60, s83_61, s83_64, s83_67, s83_68, aiS H hs, grS2 H hs, gtP H hp, gtS H hs, am83, isRf_ref, true_and, and_true, aPs_s, aPs_n, b01_0, b01_1, nI_clamp, ix_nI, inb_nI, lt_nI, eq_nI, nn_nI, eq0_nI, pk_mul, nI_add, lt_T, lt_F, if_true, if_false, true_and, and_true, neg1_nI, neg1_lt, neg1_neg, lt_neg1, eqN_F, eq_self,  S1, hk2, ck, c45', Bool.not_false, Bool.not_true, Bool.true_and, Bool.false_and, Bool.and_true, Bool.and_false, Bool.or_true, Bool.or_false, Bool.true_or, Bool.false_or, Bool.true_eq_false, Bool.false_eq_true, if_true, if_false, Option.isSome_some, Option.isSome_none, Option.isNone_some, Option.isNone_none, zB_t, zB_f, nI1_0, nI0_0, oI_s]
  simp (disch := first | omega | assumption | exact gtP H hp | exact gtS H hs | (simp only [gT_pA, gT_pI, gT_pR]; first | assumption | exact gtP H hp | exact gtS H hs) | fail) only [s83_0, s83_1, s83_2, s83_3, s83_7, s83_8, s83_11, s83_14, s83_15, s83_18, s83_20, s83_21, s83_23, s83_24, s83_26, s83_29, s83_32, s83_33, s83_35, s83_36, s83_37, s83_38, s83_41, s83_42, s83_44, s83_45, s83_48, s83_51, s83_53, s83_54, s83_55, s83_56, s83_58, s83_59, s83_60, s83_61, s83_64, s83_67, s83_68, aiS H hs, grS2 H hs, gtP H hp, gtS H hs, am83, isRf_ref, true_and, and_true, aPs_s, aPs_n, b01_0, b01_1, nI_clamp, ix_nI, inb_nI, lt_nI, eq_nI, nn_nI, eq0_nI, pk_mul, nI_add, lt_T, lt_F, if_true, if_false, true_and, and_true, neg1_nI, neg1_lt, neg1_neg, lt_neg1, eqN_F, eq_self, ]
  exact loop (nS P) 0 0 _ (by omega) rfl
def tlX (h : abH) (c : Nat → Int32) (n : Nat) : abH := pI (pI (pA h 34 (pre c n (gI h 34))) 29 2 (nI 1)) 29 3 (nI 1)
set_option maxHeartbeats 4000000 in
theorem c84 (H : KC h) {s n : Nat} (hs : s < 4) (hn : n ≤ 10) {c : Nat → Int32} (S : SH h s n c) : aM d 84 [.ref 29, .ref (57 + 2 * s)] h Q = Q none (tlX h c n) := by
  obtain ⟨S1, S2⟩ := S
  have HMa : ∀ k, KC (pA h 34 (pre c k (gI h 34))) := fun _ => H
  have loop := for_0 (F := fun k => aW d 84 2 [.ref 29, .ref (57 + 2 * s), .int (nI k)] [] (pA h 34 (pre c k (gI h 34))) Q) (R := Q none (tlX h c n)) n (by
    have S1' : gI (pA h 34 (pre c n (gI h 34))) (57 + 2 * s) 1 = nI n := by rw [gI_ne (by omega)]; exact S1
    have HM2 : KC (pI (pA h 34 (pre c n (gI h 34))) 29 2 (nI 1)) := H
    have t2 := gt_29 HM2
    rw [s84_2]
    by_cases h10 : n < 10
    · simp (disch := first | omega | assumption | exact gtS (HMa _) hs | exact gt_29 (HMa _) | (simp only [gT_pA, gT_pI, gT_pR]; first | assumption | exact gtS (HMa _) hs | exact gt_29 (HMa _)) | fail) only [s84_0, s84_1, s84_3, s84_5, s84_8, s84_9, s84_10, s84_13, s84_16, s84_17, s84_20, s84_21, s84_22, s84_25, s84_26, s84_27, s84_28, s84_31, s84_34, s84_35, s84_36, s84_39, s84_40, s84_41, s84_44, aiS (HMa _) hs, aj_34 (HMa _), grS2 (HMa _) hs, gr_29_4 (HMa _), gtS (HMa _) hs, gt_29 (HMa _), am84, isRf_ref, true_and, and_true, aPs_s, aPs_n, b01_0, b01_1, nI_clamp, ix_nI, inb_nI, lt_nI, eq_nI, nn_nI, eq0_nI, pk_mul, nI_add, lt_T, lt_F, if_true, if_false, true_and, and_true, neg1_nI, neg1_lt, neg1_neg, lt_neg1, eqN_F, eq_self,  S1', h10, Nat.lt_irrefl, b01_1, t2]
      rfl
    · simp (disch := first | omega | assumption | exact gtS (HMa _) hs | exact gt_29 (HMa _) | (simp only [gT_pA, gT_pI, gT_pR]; first | assumption | exact gtS (HMa _) hs | exact gt_29 (HMa _)) | fail) only [s84_0, s84_1, s84_3, s84_5, s84_8, s84_9, s84_10, s84_13, s84_16, s84_17, s84_20, s84_21, s84_22, s84_25, s84_26, s84_27, s84_28, s84_31, s84_34, s84_35, s84_36, s84_39, s84_40, s84_41, s84_44, aiS (HMa _) hs, aj_34 (HMa _), grS2 (HMa _) hs, gr_29_4 (HMa _), gtS (HMa _) hs, gt_29 (HMa _), am84, isRf_ref, true_and, and_true, aPs_s, aPs_n, b01_0, b01_1, nI_clamp, ix_nI, inb_nI, lt_nI, eq_nI, nn_nI, eq0_nI, pk_mul, nI_add, lt_T, lt_F, if_true, if_false, true_and, and_true, neg1_nI, neg1_lt, neg1_neg, lt_neg1, eqN_F, eq_self,  h10, b01_1, t2]
      rfl) (fun k hk => by
    have hk10 : k < 10 := by omega
    have S1' : gI (pA h 34 (pre c k (gI h 34))) (57 + 2 * s) 1 = nI n := by rw [gI_ne (by omega)]; exact S1
    have ck : gI (pA h 34 (pre c k (gI h 34))) (58 + 2 * s) k = c k := by rw [gI_ne (by omega)]; exact S2 k (by omega)
    have up := pre_pI (h := h) (o := 34) (X := c) (k := k) (G := gI h 34) (x := c k) rfl
    have k40 : k < 40 := by omega
    rw [s84_2]
    simp (disch := first | omega | assumption | exact gtS (HMa _) hs | exact gt_29 (HMa _) | (simp only [gT_pA, gT_pI, gT_pR]; first | assumption | exact gtS (HMa _) hs | exact gt_29 (HMa _)) | fail) only [s84_0, s84_1, s84_3, s84_5, s84_8, s84_9, s84_10, s84_13, s84_16, s84_17, s84_20, s84_21, s84_22, s84_25, s84_26, s84_27, s84_28, s84_31, s84_34, s84_35, s84_36, s84_39, s84_40, s84_41, s84_44, aiS (HMa _) hs, aj_34 (HMa _), grS2 (HMa _) hs, gr_29_4 (HMa _), gtS (HMa _) hs, gt_29 (HMa _), am84, isRf_ref, true_and, and_true, aPs_s, aPs_n, b01_0, b01_1, nI_clamp, ix_nI, inb_nI, lt_nI, eq_nI, nn_nI, eq0_nI, pk_mul, nI_add, lt_T, lt_F, if_true, if_false, true_and, and_true, neg1_nI, neg1_lt, neg1_neg, lt_neg1, eqN_F, eq_self,  S1', hk10, hk, k40, ck, up])
  rw [pre_0, pA_self] at loop
  simp (disch := first | omega | assumption | exact gtS H hs | exact gt_29 H | (simp only [gT_pA, gT_pI, gT_pR]; first | assumption | exact gtS H hs | exact gt_29 H) | fail) only [s84_0, s84_1, s84_3, s84_5, s84_8, s84_9, s84_10, s84_13, s84_16, s84_17, s84_20, s84_21, s84_22, s84_25, s84_26, s84_27, s84_28, s84_31, s84_34, s84_35, s84_36, s84_39, s84_40, s84_41, s84_44, aiS H hs, aj_34 H, grS2 H hs, gr_29_4 H, gtS H hs, gt_29 H, am84, isRf_ref, true_and, and_true, aPs_s, aPs_n, b01_0, b01_1, nI_clamp, ix_nI, inb_nI, lt_nI, eq_nI, nn_nI, eq0_nI, pk_mul, nI_add, lt_T, lt_F, if_true, if_false, true_and, and_true, neg1_nI, neg1_lt, neg1_neg, lt_neg1, eqN_F, eq_self, ]
  exact loop
set_option maxHeartbeats 4000000 in
theorem c89 (H : KC h) (hp : p = 5 ∨ p = 17) {P : Nat → Nat → Int32} (V : okP P) (T : TH h p P) {o : Nat → Nat} (O : ordV P o) (L : TL h P o) : aM d 89 [.ref 29] h Q = Q (some (.int (oI (pkP P o (nS P))))) h := by
  obtain ⟨C, r29⟩ := T
  have s10 := V.s.1
  have e4 := C.s
  have loop := for_0 (F := fun k => aW d 89 4 [.ref 29, .int (oI (pkP P o k)), .int (nI k)] [] h Q) (R := Q (some (.int (oI (pkP P o (nS P))))) h) (nS P) (by
    rw [s89_4]
    simp (disch := first | omega | assumption | exact gtP H hp | exact gt_29 H | (simp only [gT_pA, gT_pI, gT_pR]; first | assumption | exact gtP H hp | exact gt_29 H) | fail) only [s89_0, s89_1, s89_2, s89_3, s89_5, s89_6, s89_9, s89_12, s89_15, s89_16, s89_19, s89_20, s89_23, s89_24, s89_25, s89_26, s89_29, s89_30, s89_31, s89_34, s89_35, s89_36, s89_39, s89_42, s89_43, ai_36 H, gr_29_6 H, gtP H hp, gt_29 H, am89, isRf_ref, true_and, and_true, aPs_s, aPs_n, b01_0, b01_1, nI_clamp, ix_nI, inb_nI, lt_nI, eq_nI, nn_nI, eq0_nI, pk_mul, nI_add, lt_T, lt_F, if_true, if_false, true_and, and_true, neg1_nI, neg1_lt, neg1_neg, lt_neg1, eqN_F, eq_self,  r29, e4, Nat.lt_irrefl]) (fun k hk => by
    have l1 := (L.1 k hk).2.2
    have z1 := zLd_le V (O k hk).1
    have k10 : k < 10 := by omega
    rw [s89_4, pkP]
    cases hq : pkP P o k with
    | none => simp (disch := first | omega | assumption | exact gtP H hp | exact gt_29 H | (simp only [gT_pA, gT_pI, gT_pR]; first | assumption | exact gtP H hp | exact gt_29 H) | fail) only [s89_0, s89_1, s89_2, s89_3, s89_5, s89_6, s89_9, s89_12, s89_15, s89_16, s89_19, s89_20, s89_23, s89_24, s89_25, s89_26, s89_29, s89_30, s89_31, s89_34, s89_35, s89_36, s89_39, s89_42, s89_43, ai_36 H, gr_29_6 H, gtP H hp, gt_29 H, am89, isRf_ref, true_and, and_true, aPs_s, aPs_n, b01_0, b01_1, nI_clamp, ix_nI, inb_nI, lt_nI, eq_nI, nn_nI, eq0_nI, pk_mul, nI_add, lt_T, lt_F, if_true, if_false, true_and, and_true, neg1_nI, neg1_lt, neg1_neg, lt_neg1, eqN_F, eq_self,  r29, e4, hk, oI_n, oI_s, iflt_m1]
    | some b =>
      have hb := pkP_lt hq
      have hb2 : b < nS P := by omega
      have b10 : b < 10 := by omega
      have l2 := (L.1 b hb2).2.2
      have z2 := zLd_le V (O b hb2).1
      by_cases h1 : zLd P o b < zLd P o k
      · simp (disch := first | omega | assumption | exact gtP H hp | exact gt_29 H | (simp only [gT_pA, gT_pI, gT_pR]; first | assumption | exact gtP H hp | exact gt_29 H) | fail) only [s89_0, s89_1, s89_2, s89_3, s89_5, s89_6, s89_9, s89_12, s89_15, s89_16, s89_19, s89_20, s89_23, s89_24, s89_25, s89_26, s89_29, s89_30, s89_31, s89_34, s89_35, s89_36, s89_39, s89_42, s89_43, ai_36 H, gr_29_6 H, gtP H hp, gt_29 H, am89, isRf_ref, true_and, and_true, aPs_s, aPs_n, b01_0, b01_1, nI_clamp, ix_nI, inb_nI, lt_nI, eq_nI, nn_nI, eq0_nI, pk_mul, nI_add, lt_T, lt_F, if_true, if_false, true_and, and_true, neg1_nI, neg1_lt, neg1_neg, lt_neg1, eqN_F, eq_self,  r29, e4, hk, oI_s, nn_nI, k10, b10, l1, l2, h1]
      · simp (disch := first | omega | assumption | exact gtP H hp | exact gt_29 H | (simp only [gT_pA, gT_pI, gT_pR]; first | assumption | exact gtP H hp | exact gt_29 H) | fail) only [s89_0, s89_1, s89_2, s89_3, s89_5, s89_6, s89_9, s89_12, s89_15, s89_16, s89_19, s89_20, s89_23, s89_24, s89_25, s89_26, s89_29, s89_30, s89_31, s89_34, s89_35, s89_36, s89_39, s89_42, s89_43, ai_36 H, gr_29_6 H, gtP H hp, gt_29 H, am89, isRf_ref, true_and, and_true, aPs_s, aPs_n, b01_0, b01_1, nI_clamp, ix_nI, inb_nI, lt_nI, eq_nI, nn_nI, eq0_nI, pk_mul, nI_add, lt_T, lt_F, if_true, if_false, true_and, and_true, neg1_nI, neg1_lt, neg1_neg, lt_neg1, eqN_F, eq_self,  r29, e4, hk, oI_s, nn_nI, k10, b10, l1, l2, h1])
  simp (disch := first | omega | assumption | exact gtP H hp | exact gt_29 H | (simp only [gT_pA, gT_pI, gT_pR]; first | assumption | exact gtP H hp | exact gt_29 H) | fail) only [s89_0, s89_1, s89_2, s89_3, s89_5, s89_6, s89_9, s89_12, s89_15, s89_16, s89_19, s89_20, s89_23, s89_24, s89_25, s89_26, s89_29, s89_30, s89_31, s89_34, s89_35, s89_36, s89_39, s89_42, s89_43, ai_36 H, gr_29_6 H, gtP H hp, gt_29 H, am89, isRf_ref, true_and, and_true, aPs_s, aPs_n, b01_0, b01_1, nI_clamp, ix_nI, inb_nI, lt_nI, eq_nI, nn_nI, eq0_nI, pk_mul, nI_add, lt_T, lt_F, if_true, if_false, true_and, and_true, neg1_nI, neg1_lt, neg1_neg, lt_neg1, eqN_F, eq_self, ]
  exact loop
theorem c90 (H : KC h) {P : Nat → Nat → Int32} (V : okP P) {o : Nat → Nat} (L : TL h P o) {b : Nat} (hb : b < 12) : aM d 90 [.ref 29, .int (nI b)] h Q = Q (some (.int (zB (ti P o b).isSome))) h := by
  obtain ⟨f1, t1⟩ := L.2 b hb
  have hf := fr_lt (P := P) (o := o) (b := b)
  have s10 := V.s.1
  cases ht : ti P o b with
  | none =>
    rw [ht] at t1
    simp (disch := first | omega | assumption | exact gt_29 H | (simp only [gT_pA, gT_pI, gT_pR]; first | assumption | exact gt_29 H) | fail) only [s90_0, s90_1, s90_4, s90_5, s90_6, s90_7, s90_10, s90_11, s90_12, s90_15, s90_16, s90_19, s90_20, ai_37 H, ai_38 H, gr_29_7 H, gr_29_8 H, gt_29 H, am90, isRf_ref, true_and, and_true, aPs_s, aPs_n, b01_0, b01_1, nI_clamp, ix_nI, inb_nI, lt_nI, eq_nI, nn_nI, eq0_nI, pk_mul, nI_add, lt_T, lt_F, if_true, if_false, true_and, and_true, neg1_nI, neg1_lt, neg1_neg, lt_neg1, eqN_F, eq_self,  hb, f1, t1, oI_n, neg1_lt, Bool.not_false, Bool.not_true, Bool.true_and, Bool.false_and, Bool.and_true, Bool.and_false, Bool.or_true, Bool.or_false, Bool.true_or, Bool.false_or, Bool.true_eq_false, Bool.false_eq_true, if_true, if_false, Option.isSome_some, Option.isSome_none, Option.isNone_some, Option.isNone_none, zB_t, zB_f, nI1_0, nI0_0]
  | some t =>
    rw [ht] at t1
    have := fr_ti ht
    have h1 : ¬ t < fr P o b := by omega
    simp (disch := first | omega | assumption | exact gt_29 H | (simp only [gT_pA, gT_pI, gT_pR]; first | assumption | exact gt_29 H) | fail) only [s90_0, s90_1, s90_4, s90_5, s90_6, s90_7, s90_10, s90_11, s90_12, s90_15, s90_16, s90_19, s90_20, ai_37 H, ai_38 H, gr_29_7 H, gr_29_8 H, gt_29 H, am90, isRf_ref, true_and, and_true, aPs_s, aPs_n, b01_0, b01_1, nI_clamp, ix_nI, inb_nI, lt_nI, eq_nI, nn_nI, eq0_nI, pk_mul, nI_add, lt_T, lt_F, if_true, if_false, true_and, and_true, neg1_nI, neg1_lt, neg1_neg, lt_neg1, eqN_F, eq_self,  hb, f1, t1, oI_s, h1, Bool.not_false, Bool.not_true, Bool.true_and, Bool.false_and, Bool.and_true, Bool.and_false, Bool.or_true, Bool.or_false, Bool.true_or, Bool.false_or, Bool.true_eq_false, Bool.false_eq_true, if_true, if_false, Option.isSome_some, Option.isSome_none, Option.isNone_some, Option.isNone_none, zB_t, zB_f, nI1_0, nI0_0]
set_option maxHeartbeats 4000000 in
theorem c91 (H : KC h) {P : Nat → Nat → Int32} (V : okP P) {o : Nat → Nat} (L : TL h P o) {a b : Nat} (ha : a < 12) (hb : b < 12) : aM d 91 [.ref 29, .int (nI a), .int (nI b)] h Q = Q (some (.int (zB (shB P o a b)))) h := by
  obtain ⟨f1, t1⟩ := L.2 a ha
  obtain ⟨f2, t2⟩ := L.2 b hb
  have hf1 := fr_lt (P := P) (o := o) (b := a)
  have hf2 := fr_lt (P := P) (o := o) (b := b)
  have s10 := V.s.1
  rw [sh_iv]
  cases hy : ti P o b with
  | none =>
    rw [hy] at t2
    have e : (match ti P o a with
      | none => false
      | some t => match (none : Option Nat) with
        | none => false
        | some u => decide (fr P o a ≤ u) && decide (fr P o b ≤ t)) = false := by cases ti P o a <;> rfl
    simp (disch := first | omega | assumption | exact gt_29 H | (simp only [gT_pA, gT_pI, gT_pR]; first | assumption | exact gt_29 H) | fail) only [s91_0, s91_1, s91_4, s91_5, s91_6, s91_7, s91_10, s91_11, s91_12, s91_15, s91_16, s91_19, s91_20, s91_21, s91_22, s91_25, s91_26, s91_27, s91_30, s91_31, s91_34, s91_35, ai_37 H, ai_38 H, gr_29_7 H, gr_29_8 H, gt_29 H, am91, isRf_ref, true_and, and_true, aPs_s, aPs_n, b01_0, b01_1, nI_clamp, ix_nI, inb_nI, lt_nI, eq_nI, nn_nI, eq0_nI, pk_mul, nI_add, lt_T, lt_F, if_true, if_false, true_and, and_true, neg1_nI, neg1_lt, neg1_neg, lt_neg1, eqN_F, eq_self,  ha, hb, f1, f2, t2, oI_n, neg1_lt]
    rw [e]
    rfl
  | some u =>
    rw [hy] at t2
    have := fr_ti hy
    cases hx : ti P o a with
    | none =>
      rw [hx] at t1
      by_cases h1 : u < fr P o a
      · simp (disch := first | omega | assumption | exact gt_29 H | (simp only [gT_pA, gT_pI, gT_pR]; first | assumption | exact gt_29 H) | fail) only [s91_0, s91_1, s91_4, s91_5, s91_6, s91_7, s91_10, s91_11, s91_12, s91_15, s91_16, s91_19, s91_20, s91_21, s91_22, s91_25, s91_26, s91_27, s91_30, s91_31, s91_34, s91_35, ai_37 H, ai_38 H, gr_29_7 H, gr_29_8 H, gt_29 H, am91, isRf_ref, true_and, and_true, aPs_s, aPs_n, b01_0, b01_1, nI_clamp, ix_nI, inb_nI, lt_nI, eq_nI, nn_nI, eq0_nI, pk_mul, nI_add, lt_T, lt_F, if_true, if_false, true_and, and_true, neg1_nI, neg1_lt, neg1_neg, lt_neg1, eqN_F, eq_self,  ha, hb, f1, f2, t1, t2, oI_n, oI_s, h1, Bool.not_false, Bool.not_true, Bool.true_and, Bool.false_and, Bool.and_true, Bool.and_false, Bool.or_true, Bool.or_false, Bool.true_or, Bool.false_or, Bool.true_eq_false, Bool.false_eq_true, if_true, if_false, Option.isSome_some, Option.isSome_none, Option.isNone_some, Option.isNone_none, zB_t, zB_f, nI1_0, nI0_0]
      · simp (disch := first | omega | assumption | exact gt_29 H | (simp only [gT_pA, gT_pI, gT_pR]; first | assumption | exact gt_29 H) | fail) only [s91_0, s91_1, s91_4, s91_5, s91_6, s91_7, s91_10, s91_11, s91_12, s91_15, s91_16, s91_19, s91_20, s91_21, s91_22, s91_25, s91_26, s91_27, s91_30, s91_31, s91_34, s91_35, ai_37 H, ai_38 H, gr_29_7 H, gr_29_8 H, gt_29 H, am91, isRf_ref, true_and, and_true, aPs_s, aPs_n, b01_0, b01_1, nI_clamp, ix_nI, inb_nI, lt_nI, eq_nI, nn_nI, eq0_nI, pk_mul, nI_add, lt_T, lt_F, if_true, if_false, true_and, and_true, neg1_nI, neg1_lt, neg1_neg, lt_neg1, eqN_F, eq_self,  ha, hb, f1, f2, t1, t2, oI_n, oI_s, h1, neg1_lt, Bool.not_false, Bool.not_true, Bool.true_and, Bool.false_and, Bool.and_true, Bool.and_false, Bool.or_true, Bool.or_false, Bool.true_or, Bool.false_or, Bool.true_eq_false, Bool.false_eq_true, if_true, if_false, Option.isSome_some, Option.isSome_none, Option.isNone_some, Option.isNone_none, zB_t, zB_f, nI1_0, nI0_0]
    | some t =>
      rw [hx] at t1
      have := fr_ti hx
      by_cases h1 : u < fr P o a
      · simp (disch := first | omega | assumption | exact gt_29 H | (simp only [gT_pA, gT_pI, gT_pR]; first | assumption | exact gt_29 H) | fail) only [s91_0, s91_1, s91_4, s91_5, s91_6, s91_7, s91_10, s91_11, s91_12, s91_15, s91_16, s91_19, s91_20, s91_21, s91_22, s91_25, s91_26, s91_27, s91_30, s91_31, s91_34, s91_35, ai_37 H, ai_38 H, gr_29_7 H, gr_29_8 H, gt_29 H, am91, isRf_ref, true_and, and_true, aPs_s, aPs_n, b01_0, b01_1, nI_clamp, ix_nI, inb_nI, lt_nI, eq_nI, nn_nI, eq0_nI, pk_mul, nI_add, lt_T, lt_F, if_true, if_false, true_and, and_true, neg1_nI, neg1_lt, neg1_neg, lt_neg1, eqN_F, eq_self,  ha, hb, f1, f2, t1, t2, oI_s, h1, decide_eq_false (show ¬ fr P o a ≤ u by omega), Bool.not_false, Bool.not_true, Bool.true_and, Bool.false_and, Bool.and_true, Bool.and_false, Bool.or_true, Bool.or_false, Bool.true_or, Bool.false_or, Bool.true_eq_false, Bool.false_eq_true, if_true, if_false, Option.isSome_some, Option.isSome_none, Option.isNone_some, Option.isNone_none, zB_t, zB_f, nI1_0, nI0_0]
      · by_cases h2 : t < fr P o b
        · simp (disch := first | omega | assumption | exact gt_29 H | (simp only [gT_pA, gT_pI, gT_pR]; first | assumption | exact gt_29 H) | fail) only [s91_0, s91_1, s91_4, s91_5, s91_6, s91_7, s91_10, s91_11, s91_12, s91_15, s91_16, s91_19, s91_20, s91_21, s91_22, s91_25, s91_26, s91_27, s91_30, s91_31, s91_34, s91_35, ai_37 H, ai_38 H, gr_29_7 H, gr_29_8 H, gt_29 H, am91, isRf_ref, true_and, and_true, aPs_s, aPs_n, b01_0, b01_1, nI_clamp, ix_nI, inb_nI, lt_nI, eq_nI, nn_nI, eq0_nI, pk_mul, nI_add, lt_T, lt_F, if_true, if_false, true_and, and_true, neg1_nI, neg1_lt, neg1_neg, lt_neg1, eqN_F, eq_self,  ha, hb, f1, f2, t1, t2, oI_s, h1, h2, decide_eq_true (show fr P o a ≤ u by omega), decide_eq_false (show ¬ fr P o b ≤ t by omega), Bool.not_false, Bool.not_true, Bool.true_and, Bool.false_and, Bool.and_true, Bool.and_false, Bool.or_true, Bool.or_false, Bool.true_or, Bool.false_or, Bool.true_eq_false, Bool.false_eq_true, if_true, if_false, Option.isSome_some, Option.isSome_none, Option.isNone_some, Option.isNone_none, zB_t, zB_f, nI1_0, nI0_0]
        · simp (disch := first | omega | assumption | exact gt_29 H | (simp only [gT_pA, gT_pI, gT_pR]; first | assumption | exact gt_29 H) | fail) only [s91_0, s91_1, s91_4, s91_5, s91_6, s91_7, s91_10, s91_11, s91_12, s91_15, s91_16, s91_19, s91_20, s91_21, s91_22, s91_25, s91_26, s91_27, s91_30, s91_31, s91_34, s91_35, ai_37 H, ai_38 H, gr_29_7 H, gr_29_8 H, gt_29 H, am91, isRf_ref, true_and, and_true, aPs_s, aPs_n, b01_0, b01_1, nI_clamp, ix_nI, inb_nI, lt_nI, eq_nI, nn_nI, eq0_nI, pk_mul, nI_add, lt_T, lt_F, if_true, if_false, true_and, and_true, neg1_nI, neg1_lt, neg1_neg, lt_neg1, eqN_F, eq_self,  ha, hb, f1, f2, t1, t2, oI_s, h1, h2, decide_eq_true (show fr P o a ≤ u by omega), decide_eq_true (show fr P o b ≤ t by omega), Bool.not_false, Bool.not_true, Bool.true_and, Bool.false_and, Bool.and_true, Bool.and_false, Bool.or_true, Bool.or_false, Bool.true_or, Bool.false_or, Bool.true_eq_false, Bool.false_eq_true, if_true, if_false, Option.isSome_some, Option.isSome_none, Option.isNone_some, Option.isNone_none, zB_t, zB_f, nI1_0, nI0_0]
set_option maxHeartbeats 8000000 in
theorem c92 (H : KC h) (hp : p = 5 ∨ p = 17) {P : Nat → Nat → Int32} (V : okP P) (T : TH h p P) {o : Nat → Nat} (O : ordV P o) (L : TL h P o) {a b : Nat} (ha : a < 12) (hb : b < 12) : aM (d + 1) 92 [.ref 29, .int (nI a), .int (nI b)] h Q = Q (some (.int (zB (hdC P o a b)))) h := by
  obtain ⟨C, r29⟩ := T
  have c91' : ∀ Q', aM d 91 [.ref 29, .int (nI a), .int (nI b)] h Q' = Q' (some (.int (zB (shB P o a b)))) h := fun Q' => c91 H V L ha hb
  obtain ⟨f1, t1⟩ := L.2 a ha
  obtain ⟨f2, t2⟩ := L.2 b hb
  have s10 := V.s.1
  have si := sh_iv (P := P) (o := o) (a := a) (b := b)
  have nosh : shB P o a b = false → hdC P o a b = false := by
    intro q
    have key : ∀ n, n ≤ nS P → clN P o a b n = (0, none) := by
      intro n
      induction n with
      | zero => intro _; rfl
      | succ n ih =>
        intro hn
        rw [clN, if_neg, ih (by omega)]
        intro g
        have : shB P o a b = true := fst1_is (i := n) (Nat.zero_le _) (by omega) g
        rw [q] at this
        cases this
    unfold hdC
    rw [key _ (Nat.le_refl _)]
  rcases Bool.eq_false_or_eq_true (shB P o a b) with g | g
  · rw [g] at si
    cases hx : ti P o a with
    | none => rw [hx] at si; cases si
    | some t =>
      rw [hx] at si t1
      cases hy : ti P o b with
      | none => rw [hy] at si; cases si
      | some u =>
        rw [hy] at si t2
        simp only at si
        have si := si.symm
        rw [Bool.and_eq_true, decide_eq_true_iff, decide_eq_true_iff] at si
        have q1 := fr_ti hx
        have q2 := fr_ti hy
        obtain ⟨f, hf⟩ : ∃ f, f = if fr P o a < fr P o b then fr P o b else fr P o a := ⟨_, rfl⟩
        obtain ⟨l, hl⟩ : ∃ l, l = if u < t then u else t := ⟨_, rfl⟩
        have cl := clN_iv hx hy hf hl (n := nS P)
        have e1 := iMax_nI (a := fr P o a) (b := fr P o b) (by omega) (by omega)
        have e2 := iMin_nI (a := t) (b := u) (by omega) (by omega)
        rw [← hf] at e1
        rw [← hl] at e2
        have fl : f ≤ l := by rw [hf, hl]; split <;> split <;> omega
        have ln : l < nS P := by rw [hl]; split <;> omega
        rw [if_neg (by omega), if_neg (by omega), if_neg (by omega), if_neg (by omega)] at cl
        have f10 : f < 10 := by omega
        have fn : f < nS P := by omega
        by_cases h1 : f < l
        · have hh : hdC P o a b = true := by
            unfold hdC
            rw [cl]
            simp only
            rw [if_neg (by omega)]
          rw [hh]
          simp (disch := first | omega | assumption | exact gtP H hp | exact gt_29 H | (simp only [gT_pA, gT_pI, gT_pR]; first | assumption | exact gtP H hp | exact gt_29 H) | fail) only [s92_0, s92_1, s92_2, s92_3, s92_6, s92_9, s92_10, s92_11, s92_12, s92_15, s92_16, s92_17, s92_18, s92_21, s92_22, s92_23, s92_26, s92_27, s92_28, s92_29, s92_32, s92_33, s92_34, s92_35, s92_38, s92_39, s92_40, s92_43, s92_46, s92_47, s92_48, s92_49, s92_52, s92_55, s92_56, s92_59, s92_60, s92_61, s92_62, s92_64, s92_65, s92_68, s92_69, s92_70, s92_71, s92_74, s92_76, s92_77, s92_80, s92_81, s92_84, s92_85, s92_86, s92_87, s92_90, s92_92, s92_93, s92_96, s92_97, s92_100, s92_101, s92_103, s92_105, s92_108, s92_109, s92_112, s92_113, aiP_9 H hp, ai_34 H, ai_35 H, ai_37 H, ai_38 H, grP_9 H hp, gr_29_4 H, gr_29_5 H, gr_29_7 H, gr_29_8 H, gtP H hp, gt_29 H, am92, isRf_ref, true_and, and_true, aPs_s, aPs_n, b01_0, b01_1, nI_clamp, ix_nI, inb_nI, lt_nI, eq_nI, nn_nI, eq0_nI, pk_mul, nI_add, lt_T, lt_F, if_true, if_false, true_and, and_true, neg1_nI, neg1_lt, neg1_neg, lt_neg1, eqN_F, eq_self,  c91', g, Bool.not_false, Bool.not_true, Bool.true_and, Bool.false_and, Bool.and_true, Bool.and_false, Bool.or_true, Bool.or_false, Bool.true_or, Bool.false_or, Bool.true_eq_false, Bool.false_eq_true, if_true, if_false, Option.isSome_some, Option.isSome_none, Option.isNone_some, Option.isNone_none, zB_t, zB_f, nI1_0, nI0_0, ha, hb, f1, f2, t1, t2, oI_s, e1, e2, h1]
        · have lf : l = f := by omega
          have hh : hdC P o a b = !((mOv P o f == some a && nWt P (o f) == b) || (mOv P o f == some b && nWt P (o f) == a)) := by
            unfold hdC
            rw [cl, lf]
            simp only
            rw [if_pos (by omega)]
          obtain ⟨o1, o2, _⟩ := L.1 f fn
          have of10 : o f < 10 := by have := (O f fn).1; omega
          have ew := C.w V (O f fn).1
          have w12 := (V.w (O f fn).1).2
          have ob : ∀ j, mOv P o f = some j → j < 2 ^ 31 := fun j hj => by have := (mOvN_ok (show mOvN P o f 12 = some j from hj)).1; omega
          have eq1 := oI_eq (t := mOv P o f) (k := a) ob (by omega)
          have eq2 := oI_eq (t := mOv P o f) (k := b) ob (by omega)
          have eq3 : (nI (nWt P (o f)) = nI b) = ((nWt P (o f) == b) = true) := by rw [eq_nI (by omega) (by omega)]; simp
          have eq4 : (nI (nWt P (o f)) = nI a) = ((nWt P (o f) == a) = true) := by rw [eq_nI (by omega) (by omega)]; simp
          rw [hh]
          rcases Bool.eq_false_or_eq_true (mOv P o f == some a) with g1 | g1 <;> rcases Bool.eq_false_or_eq_true (nWt P (o f) == b) with g2 | g2 <;> rcases Bool.eq_false_or_eq_true (mOv P o f == some b) with g3 | g3 <;> rcases Bool.eq_false_or_eq_true (nWt P (o f) == a) with g4 | g4 <;> simp (disch := first | omega | assumption | exact gtP H hp | exact gt_29 H | (simp only [gT_pA, gT_pI, gT_pR]; first | assumption | exact gtP H hp | exact gt_29 H) | fail) only [s92_0, s92_1, s92_2, s92_3, s92_6, s92_9, s92_10, s92_11, s92_12, s92_15, s92_16, s92_17, s92_18, s92_21, s92_22, s92_23, s92_26, s92_27, s92_28, s92_29, s92_32, s92_33, s92_34, s92_35, s92_38, s92_39, s92_40, s92_43, s92_46, s92_47, s92_48, s92_49, s92_52, s92_55, s92_56, s92_59, s92_60, s92_61, s92_62, s92_64, s92_65, s92_68, s92_69, s92_70, s92_71, s92_74, s92_76, s92_77, s92_80, s92_81, s92_84, s92_85, s92_86, s92_87, s92_90, s92_92, s92_93, s92_96, s92_97, s92_100, s92_101, s92_103, s92_105, s92_108, s92_109, s92_112, s92_113, aiP_9 H hp, ai_34 H, ai_35 H, ai_37 H, ai_38 H, grP_9 H hp, gr_29_4 H, gr_29_5 H, gr_29_7 H, gr_29_8 H, gtP H hp, gt_29 H, am92, isRf_ref, true_and, and_true, aPs_s, aPs_n, b01_0, b01_1, nI_clamp, ix_nI, inb_nI, lt_nI, eq_nI, nn_nI, eq0_nI, pk_mul, nI_add, lt_T, lt_F, if_true, if_false, true_and, and_true, neg1_nI, neg1_lt, neg1_neg, lt_neg1, eqN_F, eq_self,  r29, c91', g, Bool.not_false, Bool.not_true, Bool.true_and, Bool.false_and, Bool.and_true, Bool.and_false, Bool.or_true, Bool.or_false, Bool.true_or, Bool.false_or, Bool.true_eq_false, Bool.false_eq_true, if_true, if_false, Option.isSome_some, Option.isSome_none, Option.isNone_some, Option.isNone_none, zB_t, zB_f, nI1_0, nI0_0, ha, hb, f1, f2, t1, t2, oI_s, e1, e2, h1, f10, o1, of10, ew, o2, eq1, eq2, -eq_nI, eq3, eq4, g1, g2, g3, g4]
  · rw [nosh g]
    simp (disch := first | omega | assumption | exact gtP H hp | exact gt_29 H | (simp only [gT_pA, gT_pI, gT_pR]; first | assumption | exact gtP H hp | exact gt_29 H) | fail) only [s92_0, s92_1, s92_2, s92_3, s92_6, s92_9, s92_10, s92_11, s92_12, s92_15, s92_16, s92_17, s92_18, s92_21, s92_22, s92_23, s92_26, s92_27, s92_28, s92_29, s92_32, s92_33, s92_34, s92_35, s92_38, s92_39, s92_40, s92_43, s92_46, s92_47, s92_48, s92_49, s92_52, s92_55, s92_56, s92_59, s92_60, s92_61, s92_62, s92_64, s92_65, s92_68, s92_69, s92_70, s92_71, s92_74, s92_76, s92_77, s92_80, s92_81, s92_84, s92_85, s92_86, s92_87, s92_90, s92_92, s92_93, s92_96, s92_97, s92_100, s92_101, s92_103, s92_105, s92_108, s92_109, s92_112, s92_113, aiP_9 H hp, ai_34 H, ai_35 H, ai_37 H, ai_38 H, grP_9 H hp, gr_29_4 H, gr_29_5 H, gr_29_7 H, gr_29_8 H, gtP H hp, gt_29 H, am92, isRf_ref, true_and, and_true, aPs_s, aPs_n, b01_0, b01_1, nI_clamp, ix_nI, inb_nI, lt_nI, eq_nI, nn_nI, eq0_nI, pk_mul, nI_add, lt_T, lt_F, if_true, if_false, true_and, and_true, neg1_nI, neg1_lt, neg1_neg, lt_neg1, eqN_F, eq_self,  c91', g, Bool.not_false, Bool.not_true, Bool.true_and, Bool.false_and, Bool.and_true, Bool.and_false, Bool.or_true, Bool.or_false, Bool.true_or, Bool.false_or, Bool.true_eq_false, Bool.false_eq_true, if_true, if_false, Option.isSome_some, Option.isSome_none, Option.isNone_some, Option.isNone_none, zB_t, zB_f, nI1_0, nI0_0]
set_option maxHeartbeats 4000000 in
theorem c93 (H : KC h) (hp : p = 5 ∨ p = 17) {P : Nat → Nat → Int32} (V : okP P) (T : TH h p P) {o : Nat → Nat} (O : ordV P o) (L : TL h P o) {b : Nat} (hb : b < 12) : aM (d + 1) 93 [.ref 29, .int (nI b)] h Q = Q (some (.int (nI (idM P o b (nS P))))) h := by
  obtain ⟨C, r29⟩ := T
  obtain ⟨f1, t1⟩ := L.2 b hb
  have s10 := V.s.1
  have hf := fr_lt (P := P) (o := o) (b := b)
  cases ht : ti P o b with
  | none =>
    rw [ht] at t1
    have e0 : idM P o b (nS P) = 0 := idM_0 (fun k _ => by unfold mAl; rw [ht])
    rw [e0]
    simp (disch := first | omega | assumption | exact gtP H hp | exact gt_29 H | (simp only [gT_pA, gT_pI, gT_pR]; first | assumption | exact gtP H hp | exact gt_29 H) | fail) only [s93_0, s93_1, s93_2, s93_3, s93_6, s93_7, s93_8, s93_10, s93_11, s93_14, s93_15, s93_16, s93_19, s93_20, s93_23, s93_24, s93_25, s93_27, s93_28, s93_31, s93_34, s93_36, s93_37, s93_38, s93_41, s93_42, s93_45, s93_46, s93_48, s93_51, s93_54, s93_55, s93_56, s93_57, s93_58, s93_59, s93_60, s93_63, s93_66, s93_67, aiP_9 H hp, ai_34 H, ai_37 H, ai_38 H, grP_9 H hp, gr_29_4 H, gr_29_7 H, gr_29_8 H, gtP H hp, gt_29 H, am93, isRf_ref, true_and, and_true, aPs_s, aPs_n, b01_0, b01_1, nI_clamp, ix_nI, inb_nI, lt_nI, eq_nI, nn_nI, eq0_nI, pk_mul, nI_add, lt_T, lt_F, if_true, if_false, true_and, and_true, neg1_nI, neg1_lt, neg1_neg, lt_neg1, eqN_F, eq_self,  hb, f1]
    rw [s93_9]
    simp (disch := first | omega | assumption | exact gtP H hp | exact gt_29 H | (simp only [gT_pA, gT_pI, gT_pR]; first | assumption | exact gtP H hp | exact gt_29 H) | fail) only [s93_0, s93_1, s93_2, s93_3, s93_6, s93_7, s93_8, s93_10, s93_11, s93_14, s93_15, s93_16, s93_19, s93_20, s93_23, s93_24, s93_25, s93_27, s93_28, s93_31, s93_34, s93_36, s93_37, s93_38, s93_41, s93_42, s93_45, s93_46, s93_48, s93_51, s93_54, s93_55, s93_56, s93_57, s93_58, s93_59, s93_60, s93_63, s93_66, s93_67, aiP_9 H hp, ai_34 H, ai_37 H, ai_38 H, grP_9 H hp, gr_29_4 H, gr_29_7 H, gr_29_8 H, gtP H hp, gt_29 H, am93, isRf_ref, true_and, and_true, aPs_s, aPs_n, b01_0, b01_1, nI_clamp, ix_nI, inb_nI, lt_nI, eq_nI, nn_nI, eq0_nI, pk_mul, nI_add, lt_T, lt_F, if_true, if_false, true_and, and_true, neg1_nI, neg1_lt, neg1_neg, lt_neg1, eqN_F, eq_self,  hb, t1, oI_n, neg1_lt]
  | some t =>
    rw [ht] at t1
    have q := fr_ti ht
    have e1 : idM P o b (fr P o b) = 0 := idM_0 (fun k hk => by rw [mAl_iv ht, decide_eq_false (by omega)]; rfl)
    have e2 : idM P o b (nS P) = idM P o b (t + 1) := idM_end (fun k hk => by rw [mAl_iv ht, decide_eq_false (show ¬ k ≤ t by omega), Bool.and_false]) (by omega)
    have hlt := idM_lt (P := P) (o := o) (b := b) (n := t + 1)
    have loop := for_ds (σ := Value) (F := fun j x => aW (d + 1) 93 9 [.ref 29, .int (nI b), .int (nI (idM P o b (fr P o b + j))), .int (nI (fr P o b + j)), x] [] h Q) (R := fun _ => Q (some (.int (nI (idM P o b (t + 1))))) h) (t + 1 - fr P o b) (fun x => by
      have h1 : t < t + 1 := by omega
      rw [s93_9, show fr P o b + (t + 1 - fr P o b) = t + 1 by omega]
      simp (disch := first | omega | assumption | exact gtP H hp | exact gt_29 H | (simp only [gT_pA, gT_pI, gT_pR]; first | assumption | exact gtP H hp | exact gt_29 H) | fail) only [s93_0, s93_1, s93_2, s93_3, s93_6, s93_7, s93_8, s93_10, s93_11, s93_14, s93_15, s93_16, s93_19, s93_20, s93_23, s93_24, s93_25, s93_27, s93_28, s93_31, s93_34, s93_36, s93_37, s93_38, s93_41, s93_42, s93_45, s93_46, s93_48, s93_51, s93_54, s93_55, s93_56, s93_57, s93_58, s93_59, s93_60, s93_63, s93_66, s93_67, aiP_9 H hp, ai_34 H, ai_37 H, ai_38 H, grP_9 H hp, gr_29_4 H, gr_29_7 H, gr_29_8 H, gtP H hp, gt_29 H, am93, isRf_ref, true_and, and_true, aPs_s, aPs_n, b01_0, b01_1, nI_clamp, ix_nI, inb_nI, lt_nI, eq_nI, nn_nI, eq0_nI, pk_mul, nI_add, lt_T, lt_F, if_true, if_false, true_and, and_true, neg1_nI, neg1_lt, neg1_neg, lt_neg1, eqN_F, eq_self,  hb, t1, oI_s, h1]) (fun j hj ih x => by
      obtain ⟨k, hk⟩ : ∃ k, k = fr P o b + j := ⟨_, rfl⟩
      have kn : k < nS P := by omega
      have k10 : k < 10 := by omega
      have h1 : ¬ t < k := by omega
      obtain ⟨o1, _⟩ := L.1 k kn
      have o2 := (O k kn).1
      have ok10 : o k < 10 := by omega
      have ew := C.w V o2
      have w12 := (V.w o2).2
      have em := C.m hb
      have hm : rdM P b (nS P) < 2 ^ 10 := Nat.lt_of_lt_of_le rdM_lt (Nat.pow_le_pow_right (by decide) s10)
      have c50' : ∀ Q', aM d 50 [.ref p, .int (nI b), .int (nI (o k))] h Q' = Q' (some (.int (zB (mRdB P (o k) b)))) h := fun Q' => by
        rw [c50 H hp (R := rdM P b (nS P)) (by omega) hb (by omega) em, rdM_tb, decide_eq_true o2, Bool.true_and]
      have eq3 : (nI (nWt P (o k)) = nI b) = ((nWt P (o k) == b) = true) := by rw [eq_nI (by omega) (by omega)]; simp
      have al : mAl P o b k = true := by rw [mAl_iv ht, decide_eq_true (by omega), decide_eq_true (by omega)]; rfl
      have ih2 : ∀ x, aW (d + 1) 93 9 [.ref 29, .int (nI b), .int (nI (idM P o b (k + 1))), .int (nI (k + 1)), x] [] h Q = Q (some (.int (nI (idM P o b (t + 1))))) h := by
        intro x
        have := ih x
        rw [show fr P o b + (j + 1) = k + 1 by omega] at this
        exact this
      rw [idM] at ih2
      unfold ioB at ih2
      rw [al] at ih2
      rw [s93_9, ← hk]
      rcases Bool.eq_false_or_eq_true (nWt P (o k) == b) with g1 | g1
      · simp only [g1, Bool.not_false, Bool.not_true, Bool.true_and, Bool.false_and, Bool.and_true, Bool.and_false, Bool.or_true, Bool.or_false, Bool.true_or, Bool.false_or, Bool.true_eq_false, Bool.false_eq_true, if_true, if_false, Option.isSome_some, Option.isSome_none, Option.isNone_some, Option.isNone_none, zB_t, zB_f, nI1_0, nI0_0] at ih2
        simp (disch := first | omega | assumption | exact gtP H hp | exact gt_29 H | (simp only [gT_pA, gT_pI, gT_pR]; first | assumption | exact gtP H hp | exact gt_29 H) | fail) only [s93_0, s93_1, s93_2, s93_3, s93_6, s93_7, s93_8, s93_10, s93_11, s93_14, s93_15, s93_16, s93_19, s93_20, s93_23, s93_24, s93_25, s93_27, s93_28, s93_31, s93_34, s93_36, s93_37, s93_38, s93_41, s93_42, s93_45, s93_46, s93_48, s93_51, s93_54, s93_55, s93_56, s93_57, s93_58, s93_59, s93_60, s93_63, s93_66, s93_67, aiP_9 H hp, ai_34 H, ai_37 H, ai_38 H, grP_9 H hp, gr_29_4 H, gr_29_7 H, gr_29_8 H, gtP H hp, gt_29 H, am93, isRf_ref, true_and, and_true, aPs_s, aPs_n, b01_0, b01_1, nI_clamp, ix_nI, inb_nI, lt_nI, eq_nI, nn_nI, eq0_nI, pk_mul, nI_add, lt_T, lt_F, if_true, if_false, true_and, and_true, neg1_nI, neg1_lt, neg1_neg, lt_neg1, eqN_F, eq_self,  hb, t1, oI_s, h1, k10, o1, r29, ok10, ew, -eq_nI, eq3, g1, Bool.not_false, Bool.not_true, Bool.true_and, Bool.false_and, Bool.and_true, Bool.and_false, Bool.or_true, Bool.or_false, Bool.true_or, Bool.false_or, Bool.true_eq_false, Bool.false_eq_true, if_true, if_false, Option.isSome_some, Option.isSome_none, Option.isNone_some, Option.isNone_none, zB_t, zB_f, nI1_0, nI0_0, ih2]
      · rcases Bool.eq_false_or_eq_true (mRdB P (o k) b) with g2 | g2
        · simp only [g1, g2, Bool.not_false, Bool.not_true, Bool.true_and, Bool.false_and, Bool.and_true, Bool.and_false, Bool.or_true, Bool.or_false, Bool.true_or, Bool.false_or, Bool.true_eq_false, Bool.false_eq_true, if_true, if_false, Option.isSome_some, Option.isSome_none, Option.isNone_some, Option.isNone_none, zB_t, zB_f, nI1_0, nI0_0] at ih2
          simp (disch := first | omega | assumption | exact gtP H hp | exact gt_29 H | (simp only [gT_pA, gT_pI, gT_pR]; first | assumption | exact gtP H hp | exact gt_29 H) | fail) only [s93_0, s93_1, s93_2, s93_3, s93_6, s93_7, s93_8, s93_10, s93_11, s93_14, s93_15, s93_16, s93_19, s93_20, s93_23, s93_24, s93_25, s93_27, s93_28, s93_31, s93_34, s93_36, s93_37, s93_38, s93_41, s93_42, s93_45, s93_46, s93_48, s93_51, s93_54, s93_55, s93_56, s93_57, s93_58, s93_59, s93_60, s93_63, s93_66, s93_67, aiP_9 H hp, ai_34 H, ai_37 H, ai_38 H, grP_9 H hp, gr_29_4 H, gr_29_7 H, gr_29_8 H, gtP H hp, gt_29 H, am93, isRf_ref, true_and, and_true, aPs_s, aPs_n, b01_0, b01_1, nI_clamp, ix_nI, inb_nI, lt_nI, eq_nI, nn_nI, eq0_nI, pk_mul, nI_add, lt_T, lt_F, if_true, if_false, true_and, and_true, neg1_nI, neg1_lt, neg1_neg, lt_neg1, eqN_F, eq_self,  hb, t1, oI_s, h1, k10, o1, r29, ok10, ew, -eq_nI, eq3, g1, Bool.not_false, Bool.not_true, Bool.true_and, Bool.false_and, Bool.and_true, Bool.and_false, Bool.or_true, Bool.or_false, Bool.true_or, Bool.false_or, Bool.true_eq_false, Bool.false_eq_true, if_true, if_false, Option.isSome_some, Option.isSome_none, Option.isNone_some, Option.isNone_none, zB_t, zB_f, nI1_0, nI0_0, c50', g2, ih2]
        · simp only [g1, g2, Bool.not_false, Bool.not_true, Bool.true_and, Bool.false_and, Bool.and_true, Bool.and_false, Bool.or_true, Bool.or_false, Bool.true_or, Bool.false_or, Bool.true_eq_false, Bool.false_eq_true, if_true, if_false, Option.isSome_some, Option.isSome_none, Option.isNone_some, Option.isNone_none, zB_t, zB_f, nI1_0, nI0_0] at ih2
          simp (disch := first | omega | assumption | exact gtP H hp | exact gt_29 H | (simp only [gT_pA, gT_pI, gT_pR]; first | assumption | exact gtP H hp | exact gt_29 H) | fail) only [s93_0, s93_1, s93_2, s93_3, s93_6, s93_7, s93_8, s93_10, s93_11, s93_14, s93_15, s93_16, s93_19, s93_20, s93_23, s93_24, s93_25, s93_27, s93_28, s93_31, s93_34, s93_36, s93_37, s93_38, s93_41, s93_42, s93_45, s93_46, s93_48, s93_51, s93_54, s93_55, s93_56, s93_57, s93_58, s93_59, s93_60, s93_63, s93_66, s93_67, aiP_9 H hp, ai_34 H, ai_37 H, ai_38 H, grP_9 H hp, gr_29_4 H, gr_29_7 H, gr_29_8 H, gtP H hp, gt_29 H, am93, isRf_ref, true_and, and_true, aPs_s, aPs_n, b01_0, b01_1, nI_clamp, ix_nI, inb_nI, lt_nI, eq_nI, nn_nI, eq0_nI, pk_mul, nI_add, lt_T, lt_F, if_true, if_false, true_and, and_true, neg1_nI, neg1_lt, neg1_neg, lt_neg1, eqN_F, eq_self,  hb, t1, oI_s, h1, k10, o1, r29, ok10, ew, -eq_nI, eq3, g1, Bool.not_false, Bool.not_true, Bool.true_and, Bool.false_and, Bool.and_true, Bool.and_false, Bool.or_true, Bool.or_false, Bool.true_or, Bool.false_or, Bool.true_eq_false, Bool.false_eq_true, if_true, if_false, Option.isSome_some, Option.isSome_none, Option.isNone_some, Option.isNone_none, zB_t, zB_f, nI1_0, nI0_0, c50', g2, nI_bit, ih2])
    have l0 := loop 0 (Nat.zero_le _) (.retAddr 0)
    simp only [Nat.add_zero, e1] at l0
    rw [e2]
    simp (disch := first | omega | assumption | exact gtP H hp | exact gt_29 H | (simp only [gT_pA, gT_pI, gT_pR]; first | assumption | exact gtP H hp | exact gt_29 H) | fail) only [s93_0, s93_1, s93_2, s93_3, s93_6, s93_7, s93_8, s93_10, s93_11, s93_14, s93_15, s93_16, s93_19, s93_20, s93_23, s93_24, s93_25, s93_27, s93_28, s93_31, s93_34, s93_36, s93_37, s93_38, s93_41, s93_42, s93_45, s93_46, s93_48, s93_51, s93_54, s93_55, s93_56, s93_57, s93_58, s93_59, s93_60, s93_63, s93_66, s93_67, aiP_9 H hp, ai_34 H, ai_37 H, ai_38 H, grP_9 H hp, gr_29_4 H, gr_29_7 H, gr_29_8 H, gtP H hp, gt_29 H, am93, isRf_ref, true_and, and_true, aPs_s, aPs_n, b01_0, b01_1, nI_clamp, ix_nI, inb_nI, lt_nI, eq_nI, nn_nI, eq0_nI, pk_mul, nI_add, lt_T, lt_F, if_true, if_false, true_and, and_true, neg1_nI, neg1_lt, neg1_neg, lt_neg1, eqN_F, eq_self,  hb, f1]
    exact l0
end C8
