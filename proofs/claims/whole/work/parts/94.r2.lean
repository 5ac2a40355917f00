/-! BOTH SIDES, call by call: what is told -/
theorem DZ_sc : ∀ o k, DZ o k → ¬ scS o k := by
  intro o k
  simp only [DZ, D1, D2, D3, D4, D5, D6, D7, D8, D9, DA, DB, scS]
  omega
theorem Rel_Fm {hs h h' : abH} (F : Fm h h') (R : Rel hs h) : Rel hs h' := Rel_fr (Fm_Fr F) DZ_sc R
theorem zTs_up {P : Nat → Nat → Int32} {D s : Nat} (h : tb D s = false) : ∀ {m : Nat}, (s < m) → ∀ f : Nat → Nat → Nat, (∀ D n, f D n = (match n with | 0 => 0 | n + 1 => f D n + (if tb D n = true then zT P n else 0))) → f (D ||| 2 ^ s) m = f D m + zT P s := by
  intro m
  induction m with
  | zero => intro h; omega
  | succ m ih =>
    intro hs f hf
    rw [hf (D ||| 2 ^ s) (m + 1), hf D (m + 1)]
    by_cases e : s = m
    · subst e
      have : ∀ n, n ≤ s → f (D ||| 2 ^ s) n = f D n := by
        intro n
        induction n with
        | zero => intro _; rw [hf, hf D 0]
        | succ n ih2 =>
          intro hn
          rw [hf (D ||| 2 ^ s) (n + 1), hf D (n + 1)]
          simp only
          rw [ih2 (by omega), tb_or]
          have : decide (n = s) = false := decide_eq_false (by omega)
          rw [this, Bool.or_false]
      simp only
      rw [this s (Nat.le_refl _), tb_or, h]
      simp
    · have := ih (by omega) f hf
      simp only
      rw [this, tb_or]
      have : decide (m = s) = false := decide_eq_false (by omega)
      rw [this, Bool.or_false]
      omega
def sTb (P : Nat → Nat → Int32) (D : Nat) : Nat → Nat
  | 0 => 0
  | n + 1 => sTb P D n + (if tb D n = true then zT P n else 0)
theorem sTb_eq {P : Nat → Nat → Int32} : ∀ D n, sTb P D n = (match n with | 0 => 0 | n + 1 => sTb P D n + (if tb D n = true then zT P n else 0)) := by
  intro D n
  cases n with
  | zero => rw [sTb]
  | succ n => rw [sTb]
theorem sTb_0 {P : Nat → Nat → Int32} : ∀ {n : Nat}, sTb P 0 n = 0 := by
  intro n
  induction n with
  | zero => rfl
  | succ n ih => rw [sTb, ih, tb_0]; simp
theorem sTb_f {P : Nat → Nat → Int32} {n : Nat} : ∀ {m : Nat}, m ≤ n → sTb P (2 ^ n - 1) m = zTa P m := by
  intro m
  induction m with
  | zero => intro _; rfl
  | succ m ih =>
    intro hm
    rw [sTb, zTa, ih (by omega), tb_all, decide_eq_true (show m < n by omega)]
    simp
theorem zTs_zTa {P : Nat → Nat → Int32} {o : Nat → Nat} (O : ordV P o) : zTs P o (nS P) = zTa P (nS P) := by
  have : ∀ k, k ≤ nS P → zTs P o k = sTb P (obt o k) (nS P) := by
    intro k
    induction k with
    | zero => intro _; rw [zTs, obt, sTb_0]
    | succ k ih =>
      intro hk
      have h1 := obt_not O (k := k) (j := k) (by omega) (by omega)
      rw [decide_eq_false (by omega)] at h1
      rw [zTs, obt, ih (by omega), zTs_up h1 (O k (by omega)).1 (sTb P) sTb_eq]
  rw [this _ (Nat.le_refl _), obt_full O, sTb_f (Nat.le_refl _)]
theorem Pr_e {d : Nat} {hs h h1 h2 : abH} {y1 y2 : Nat} {a1 a2 : List Value} {v : Int32} (c : ∀ Q, aM (d + 20) y1 a1 h Q = Q (some (.int v)) h1) (r : ∀ Q, aM (d + 20) y2 a2 h1 Q = Q (some (.int v)) h2) (R : Rel hs h2) : Pr d hs h y1 y2 a1 a2 := fun Q1 hQ1 => by
  rw [c]
  exact hQ1 v h1 (fun Q2 hQ2 => by rw [r]; exact hQ2 h2 R)
theorem Pr_t {d : Nat} {hs h h1 : abH} {y1 y2 : Nat} {a1 a2 : List Value} {v : Int32} (c : ∀ Q, aM (d + 20) y1 a1 h Q = Q (some (.int v)) h1) (r : ∀ Q2 : Option Value → abH → Prop, (∀ h2, Rel hs h2 → Q2 (some (.int v)) h2) → aM (d + 20) y2 a2 h1 Q2) : Pr d hs h y1 y2 a1 a2 := fun Q1 hQ1 => by
  rw [c]
  exact hQ1 v h1 r
section R2
variable {d : Nat} {hs h : abH} {Q : Option Value → abH → Prop}
theorem p_kind (R : Rel hs h) {k w a b : Int32} : Pr d hs h 122 158 [.ref 2, .int k, .int w, .int a, .int b] [.ref 65, .int k, .int w, .int a, .int b] := by
  have R' := R
  obtain ⟨p, P, tl, ⟨-, -, H, HM, AB0⟩, -⟩ := R
  refine Pr_e (h1 := h) (v := if ktB k w a b = true then (if w = 0 then kTicks k a else if w = nI 1 then kScr k a b else zB (kOver k)) else -2) (fun Q => ?_) (fun Q => c158) R'
  have c20' : ∀ Q', aM (d + 19) 20 [.int k] h Q' = Q' (some (.int (zB (plc k 6).isSome))) h := fun Q' => c20
  have i9 : ∀ x : Int32, (plc x 1000).isSome = decide (¬ x < 0 ∧ ¬ nI 999 < x) := fun x => (in_plc (k := x) (m := 999) (by decide)).symm
  unfold ktB
  rcases plc_cases k 6 (by omega) with ⟨j, hj, rfl, e⟩ | ⟨e, _⟩ | ⟨e, _⟩
  · rw [e, i9 a, i9 b]
    have c20' : ∀ Q', aM (d + 19) 20 [.int (nI j)] h Q' = Q' (some (.int (nI 1))) h := fun Q' => by rw [c20', e]; rfl
    have c22' : ∀ Q', aM (d + 19) 22 [.int (nI j)] h Q' = Q' (some (.int (zB (kOver (nI j))))) h := fun Q' => c22 H AB0 hj
    have c23' : ∀ Q', aM (d + 19) 23 [.int (nI j), .int a] h Q' = Q' (some (.int (kTicks (nI j) a))) h := fun Q' => c23 hj
    have c24' : ∀ Q', aM (d + 19) 24 [.int (nI j), .int a, .int b] h Q' = Q' (some (.int (kScr (nI j) a b))) h := fun Q' => c24 hj
    by_cases a1 : a < 0
    · simp (disch := first | omega | assumption | fail) only [s122_0, s122_1, s122_4, s122_7, s122_8, s122_11, s122_12, s122_15, s122_18, s122_20, s122_23, s122_25, s122_28, s122_31, s122_33, s122_34, s122_35, s122_60, s122_61, s122_62, s122_65, s122_66, s122_67, s122_68, s122_70, s122_73, s122_74, s122_75, s122_78, s122_81, s122_82, s122_85, s122_86, s122_87, s122_89, am122, isRf_ref, true_and, and_true, aPs_s, aPs_n, b01_0, b01_1, nI_clamp, ix_nI, inb_nI, lt_nI, eq_nI, nn_nI, eq0_nI, pk_mul, nI_add, lt_T, lt_F, if_true, if_false, true_and, and_true, neg1_nI, neg1_lt, neg1_neg, lt_neg1, eqN_F, eq_self,  c20', Bool.not_false, Bool.not_true, Bool.true_and, Bool.false_and, Bool.and_true, Bool.and_false, Bool.or_true, Bool.or_false, Bool.true_or, Bool.false_or, Bool.true_eq_false, Bool.false_eq_true, if_true, if_false, Option.isSome_some, Option.isSome_none, Option.isNone_some, Option.isNone_none, zB_t, zB_f, nI1_0, nI0_0, a1, not_true_eq_false, false_and, decide_false, Bool.and_false, Bool.false_and]
    · by_cases a2 : nI 999 < a
      · simp (disch := first | omega | assumption | fail) only [s122_0, s122_1, s122_4, s122_7, s122_8, s122_11, s122_12, s122_15, s122_18, s122_20, s122_23, s122_25, s122_28, s122_31, s122_33, s122_34, s122_35, s122_60, s122_61, s122_62, s122_65, s122_66, s122_67, s122_68, s122_70, s122_73, s122_74, s122_75, s122_78, s122_81, s122_82, s122_85, s122_86, s122_87, s122_89, am122, isRf_ref, true_and, and_true, aPs_s, aPs_n, b01_0, b01_1, nI_clamp, ix_nI, inb_nI, lt_nI, eq_nI, nn_nI, eq0_nI, pk_mul, nI_add, lt_T, lt_F, if_true, if_false, true_and, and_true, neg1_nI, neg1_lt, neg1_neg, lt_neg1, eqN_F, eq_self,  c20', Bool.not_false, Bool.not_true, Bool.true_and, Bool.false_and, Bool.and_true, Bool.and_false, Bool.or_true, Bool.or_false, Bool.true_or, Bool.false_or, Bool.true_eq_false, Bool.false_eq_true, if_true, if_false, Option.isSome_some, Option.isSome_none, Option.isNone_some, Option.isNone_none, zB_t, zB_f, nI1_0, nI0_0, a1, a2, not_true_eq_false, and_false, decide_false, Bool.and_false, Bool.false_and]
      · by_cases b1 : b < 0
        · simp (disch := first | omega | assumption | fail) only [s122_0, s122_1, s122_4, s122_7, s122_8, s122_11, s122_12, s122_15, s122_18, s122_20, s122_23, s122_25, s122_28, s122_31, s122_33, s122_34, s122_35, s122_60, s122_61, s122_62, s122_65, s122_66, s122_67, s122_68, s122_70, s122_73, s122_74, s122_75, s122_78, s122_81, s122_82, s122_85, s122_86, s122_87, s122_89, am122, isRf_ref, true_and, and_true, aPs_s, aPs_n, b01_0, b01_1, nI_clamp, ix_nI, inb_nI, lt_nI, eq_nI, nn_nI, eq0_nI, pk_mul, nI_add, lt_T, lt_F, if_true, if_false, true_and, and_true, neg1_nI, neg1_lt, neg1_neg, lt_neg1, eqN_F, eq_self,  c20', Bool.not_false, Bool.not_true, Bool.true_and, Bool.false_and, Bool.and_true, Bool.and_false, Bool.or_true, Bool.or_false, Bool.true_or, Bool.false_or, Bool.true_eq_false, Bool.false_eq_true, if_true, if_false, Option.isSome_some, Option.isSome_none, Option.isNone_some, Option.isNone_none, zB_t, zB_f, nI1_0, nI0_0, a1, a2, b1, not_true_eq_false, false_and, decide_false, Bool.and_false, Bool.false_and]
        · by_cases b2 : nI 999 < b
          · simp (disch := first | omega | assumption | fail) only [s122_0, s122_1, s122_4, s122_7, s122_8, s122_11, s122_12, s122_15, s122_18, s122_20, s122_23, s122_25, s122_28, s122_31, s122_33, s122_34, s122_35, s122_60, s122_61, s122_62, s122_65, s122_66, s122_67, s122_68, s122_70, s122_73, s122_74, s122_75, s122_78, s122_81, s122_82, s122_85, s122_86, s122_87, s122_89, am122, isRf_ref, true_and, and_true, aPs_s, aPs_n, b01_0, b01_1, nI_clamp, ix_nI, inb_nI, lt_nI, eq_nI, nn_nI, eq0_nI, pk_mul, nI_add, lt_T, lt_F, if_true, if_false, true_and, and_true, neg1_nI, neg1_lt, neg1_neg, lt_neg1, eqN_F, eq_self,  c20', Bool.not_false, Bool.not_true, Bool.true_and, Bool.false_and, Bool.and_true, Bool.and_false, Bool.or_true, Bool.or_false, Bool.true_or, Bool.false_or, Bool.true_eq_false, Bool.false_eq_true, if_true, if_false, Option.isSome_some, Option.isSome_none, Option.isNone_some, Option.isNone_none, zB_t, zB_f, nI1_0, nI0_0, a1, a2, b1, b2, not_true_eq_false, and_false, decide_false, Bool.and_false, Bool.false_and]
          · rcases (show (∃ i, i < 3 ∧ w = nI i ∧ plc w 3 = some i) ∨ plc w 3 = none from by
              rcases plc_cases w 3 (by omega) with q | ⟨q, _⟩ | ⟨q, _⟩
              · exact Or.inl q
              · exact Or.inr q
              · exact Or.inr q) with ⟨i, hi, rfl, ew⟩ | ew
            · rw [ew]
              rcases (show i = 0 ∨ i = 1 ∨ i = 2 by omega) with rfl | rfl | rfl
              · simp (disch := first | omega | assumption | fail) only [s122_0, s122_1, s122_4, s122_7, s122_8, s122_11, s122_12, s122_15, s122_18, s122_20, s122_23, s122_25, s122_28, s122_31, s122_33, s122_34, s122_35, s122_60, s122_61, s122_62, s122_65, s122_66, s122_67, s122_68, s122_70, s122_73, s122_74, s122_75, s122_78, s122_81, s122_82, s122_85, s122_86, s122_87, s122_89, am122, isRf_ref, true_and, and_true, aPs_s, aPs_n, b01_0, b01_1, nI_clamp, ix_nI, inb_nI, lt_nI, eq_nI, nn_nI, eq0_nI, pk_mul, nI_add, lt_T, lt_F, if_true, if_false, true_and, and_true, neg1_nI, neg1_lt, neg1_neg, lt_neg1, eqN_F, eq_self,  c20', Bool.not_false, Bool.not_true, Bool.true_and, Bool.false_and, Bool.and_true, Bool.and_false, Bool.or_true, Bool.or_false, Bool.true_or, Bool.false_or, Bool.true_eq_false, Bool.false_eq_true, if_true, if_false, Option.isSome_some, Option.isSome_none, Option.isNone_some, Option.isNone_none, zB_t, zB_f, nI1_0, nI0_0, a1, a2, b1, b2, c23', nI0_0, not_false_eq_true, and_self, decide_true]
              · simp (disch := first | omega | assumption | fail) only [s122_0, s122_1, s122_4, s122_7, s122_8, s122_11, s122_12, s122_15, s122_18, s122_20, s122_23, s122_25, s122_28, s122_31, s122_33, s122_34, s122_35, s122_60, s122_61, s122_62, s122_65, s122_66, s122_67, s122_68, s122_70, s122_73, s122_74, s122_75, s122_78, s122_81, s122_82, s122_85, s122_86, s122_87, s122_89, am122, isRf_ref, true_and, and_true, aPs_s, aPs_n, b01_0, b01_1, nI_clamp, ix_nI, inb_nI, lt_nI, eq_nI, nn_nI, eq0_nI, pk_mul, nI_add, lt_T, lt_F, if_true, if_false, true_and, and_true, neg1_nI, neg1_lt, neg1_neg, lt_neg1, eqN_F, eq_self,  c20', Bool.not_false, Bool.not_true, Bool.true_and, Bool.false_and, Bool.and_true, Bool.and_false, Bool.or_true, Bool.or_false, Bool.true_or, Bool.false_or, Bool.true_eq_false, Bool.false_eq_true, if_true, if_false, Option.isSome_some, Option.isSome_none, Option.isNone_some, Option.isNone_none, zB_t, zB_f, nI1_0, nI0_0, a1, a2, b1, b2, c24', nI1_0, not_false_eq_true, and_self, decide_true]
              · rcases Bool.eq_false_or_eq_true (kOver (nI j)) with g | g <;> simp (disch := first | omega | assumption | fail) only [s122_0, s122_1, s122_4, s122_7, s122_8, s122_11, s122_12, s122_15, s122_18, s122_20, s122_23, s122_25, s122_28, s122_31, s122_33, s122_34, s122_35, s122_60, s122_61, s122_62, s122_65, s122_66, s122_67, s122_68, s122_70, s122_73, s122_74, s122_75, s122_78, s122_81, s122_82, s122_85, s122_86, s122_87, s122_89, am122, isRf_ref, true_and, and_true, aPs_s, aPs_n, b01_0, b01_1, nI_clamp, ix_nI, inb_nI, lt_nI, eq_nI, nn_nI, eq0_nI, pk_mul, nI_add, lt_T, lt_F, if_true, if_false, true_and, and_true, neg1_nI, neg1_lt, neg1_neg, lt_neg1, eqN_F, eq_self,  c20', Bool.not_false, Bool.not_true, Bool.true_and, Bool.false_and, Bool.and_true, Bool.and_false, Bool.or_true, Bool.or_false, Bool.true_or, Bool.false_or, Bool.true_eq_false, Bool.false_eq_true, if_true, if_false, Option.isSome_some, Option.isSome_none, Option.isNone_some, Option.isNone_none, zB_t, zB_f, nI1_0, nI0_0, a1, a2, b1, b2, c22', g, zB_b, nI2_0, not_false_eq_true, and_self, decide_true]
            · have n0 := plc_ne ew (j := 0) (by omega) (by omega)
              have n1 := plc_ne ew (j := 1) (by omega) (by omega)
              have n2 := plc_ne ew (j := 2) (by omega) (by omega)
              have n3 : (w = 0) = False := n0
              simp (disch := first | omega | assumption | fail) only [s122_0, s122_1, s122_4, s122_7, s122_8, s122_11, s122_12, s122_15, s122_18, s122_20, s122_23, s122_25, s122_28, s122_31, s122_33, s122_34, s122_35, s122_60, s122_61, s122_62, s122_65, s122_66, s122_67, s122_68, s122_70, s122_73, s122_74, s122_75, s122_78, s122_81, s122_82, s122_85, s122_86, s122_87, s122_89, am122, isRf_ref, true_and, and_true, aPs_s, aPs_n, b01_0, b01_1, nI_clamp, ix_nI, inb_nI, lt_nI, eq_nI, nn_nI, eq0_nI, pk_mul, nI_add, lt_T, lt_F, if_true, if_false, true_and, and_true, neg1_nI, neg1_lt, neg1_neg, lt_neg1, eqN_F, eq_self,  c20', ew, Bool.not_false, Bool.not_true, Bool.true_and, Bool.false_and, Bool.and_true, Bool.and_false, Bool.or_true, Bool.or_false, Bool.true_or, Bool.false_or, Bool.true_eq_false, Bool.false_eq_true, if_true, if_false, Option.isSome_some, Option.isSome_none, Option.isNone_some, Option.isNone_none, zB_t, zB_f, nI1_0, nI0_0, a1, a2, b1, b2, n0, n1, n2, n3, not_false_eq_true, and_self, decide_true]
  · have c20' : ∀ Q', aM (d + 19) 20 [.int k] h Q' = Q' (some (.int (nI 0))) h := fun Q' => by rw [c20', e]; rfl
    simp (disch := first | omega | assumption | fail) only [s122_0, s122_1, s122_4, s122_7, s122_8, s122_11, s122_12, s122_15, s122_18, s122_20, s122_23, s122_25, s122_28, s122_31, s122_33, s122_34, s122_35, s122_60, s122_61, s122_62, s122_65, s122_66, s122_67, s122_68, s122_70, s122_73, s122_74, s122_75, s122_78, s122_81, s122_82, s122_85, s122_86, s122_87, s122_89, am122, isRf_ref, true_and, and_true, aPs_s, aPs_n, b01_0, b01_1, nI_clamp, ix_nI, inb_nI, lt_nI, eq_nI, nn_nI, eq0_nI, pk_mul, nI_add, lt_T, lt_F, if_true, if_false, true_and, and_true, neg1_nI, neg1_lt, neg1_neg, lt_neg1, eqN_F, eq_self,  c20', e, Bool.not_false, Bool.not_true, Bool.true_and, Bool.false_and, Bool.and_true, Bool.and_false, Bool.or_true, Bool.or_false, Bool.true_or, Bool.false_or, Bool.true_eq_false, Bool.false_eq_true, if_true, if_false, Option.isSome_some, Option.isSome_none, Option.isNone_some, Option.isNone_none, zB_t, zB_f, nI1_0, nI0_0]
  · have c20' : ∀ Q', aM (d + 19) 20 [.int k] h Q' = Q' (some (.int (nI 0))) h := fun Q' => by rw [c20', e]; rfl
    simp (disch := first | omega | assumption | fail) only [s122_0, s122_1, s122_4, s122_7, s122_8, s122_11, s122_12, s122_15, s122_18, s122_20, s122_23, s122_25, s122_28, s122_31, s122_33, s122_34, s122_35, s122_60, s122_61, s122_62, s122_65, s122_66, s122_67, s122_68, s122_70, s122_73, s122_74, s122_75, s122_78, s122_81, s122_82, s122_85, s122_86, s122_87, s122_89, am122, isRf_ref, true_and, and_true, aPs_s, aPs_n, b01_0, b01_1, nI_clamp, ix_nI, inb_nI, lt_nI, eq_nI, nn_nI, eq0_nI, pk_mul, nI_add, lt_T, lt_F, if_true, if_false, true_and, and_true, neg1_nI, neg1_lt, neg1_neg, lt_neg1, eqN_F, eq_self,  c20', e, Bool.not_false, Bool.not_true, Bool.true_and, Bool.false_and, Bool.and_true, Bool.and_false, Bool.or_true, Bool.or_false, Bool.true_or, Bool.false_or, Bool.true_eq_false, Bool.false_eq_true, if_true, if_false, Option.isSome_some, Option.isSome_none, Option.isNone_some, Option.isNone_none, zB_t, zB_f, nI1_0, nI0_0]
theorem c135 (H : KC h) {p : Nat} {P : Nat → Nat → Int32} {ot : Option (Nat → Nat)} (hp : p = 5 ∨ p = 17) (r21 : gR h 2 1 = .ref p) (V : okP P) (T : TM h p P ot) {k : Int32} : aM d 135 [.ref 2, .int k] h Q = Q (some (.int (match plc k (nS P) with
    | none => -5
    | some _ => if ot.isSome = true then nI 0 else -3))) h := by
  have s10 := V.s.1
  have f4 := T.1.1.s
  have f3 := T.2.2.1
  rcases plc_cases k (nS P) (by omega) with ⟨j, hj, rfl, e⟩ | ⟨e, e1, e2⟩ | ⟨e, e1, e2, e3, e4⟩
  · rw [e]
    rcases Bool.eq_false_or_eq_true ot.isSome with g | g <;> simp (disch := first | omega | assumption | exact gtP H hp | exact gt_2 H | exact gt_29 H | (simp only [gT_pA, gT_pI, gT_pR]; first | assumption | exact gtP H hp | exact gt_2 H | exact gt_29 H) | fail) only [s135_0, s135_1, s135_4, s135_5, s135_6, s135_9, s135_12, s135_15, s135_17, s135_18, s135_19, s135_22, s135_25, s135_28, s135_29, s135_32, s135_34, gr_2_3 H, gtP H hp, gt_2 H, gt_29 H, am135, isRf_ref, true_and, and_true, aPs_s, aPs_n, b01_0, b01_1, nI_clamp, ix_nI, inb_nI, lt_nI, eq_nI, nn_nI, eq0_nI, pk_mul, nI_add, lt_T, lt_F, if_true, if_false, true_and, and_true, neg1_nI, neg1_lt, neg1_neg, lt_neg1, eqN_F, eq_self,  r21, f4, hj, f3, g, Bool.not_false, Bool.not_true, Bool.true_and, Bool.false_and, Bool.and_true, Bool.and_false, Bool.or_true, Bool.or_false, Bool.true_or, Bool.false_or, Bool.true_eq_false, Bool.false_eq_true, if_true, if_false, Option.isSome_some, Option.isSome_none, Option.isNone_some, Option.isNone_none, zB_t, zB_f, nI1_0, nI0_0]
  · simp (disch := first | omega | assumption | exact gtP H hp | exact gt_2 H | exact gt_29 H | (simp only [gT_pA, gT_pI, gT_pR]; first | assumption | exact gtP H hp | exact gt_2 H | exact gt_29 H) | fail) only [s135_0, s135_1, s135_4, s135_5, s135_6, s135_9, s135_12, s135_15, s135_17, s135_18, s135_19, s135_22, s135_25, s135_28, s135_29, s135_32, s135_34, gr_2_3 H, gtP H hp, gt_2 H, gt_29 H, am135, isRf_ref, true_and, and_true, aPs_s, aPs_n, b01_0, b01_1, nI_clamp, ix_nI, inb_nI, lt_nI, eq_nI, nn_nI, eq0_nI, pk_mul, nI_add, lt_T, lt_F, if_true, if_false, true_and, and_true, neg1_nI, neg1_lt, neg1_neg, lt_neg1, eqN_F, eq_self,  e, e1]
  · simp (disch := first | omega | assumption | exact gtP H hp | exact gt_2 H | exact gt_29 H | (simp only [gT_pA, gT_pI, gT_pR]; first | assumption | exact gtP H hp | exact gt_2 H | exact gt_29 H) | fail) only [s135_0, s135_1, s135_4, s135_5, s135_6, s135_9, s135_12, s135_15, s135_17, s135_18, s135_19, s135_22, s135_25, s135_28, s135_29, s135_32, s135_34, gr_2_3 H, gtP H hp, gt_2 H, gt_29 H, am135, isRf_ref, true_and, and_true, aPs_s, aPs_n, b01_0, b01_1, nI_clamp, ix_nI, inb_nI, lt_nI, eq_nI, nn_nI, eq0_nI, pk_mul, nI_add, lt_T, lt_F, if_true, if_false, true_and, and_true, neg1_nI, neg1_lt, neg1_neg, lt_neg1, eqN_F, eq_self,  r21, f4, e, e1, e3]
set_option maxHeartbeats 4000000 in
theorem p_oTold (R : Rel hs h) {k : Int32} : Pr d hs h 99 168 [.ref 2, .int k] [.ref 65, .int k] := by
  have R' := R
  obtain ⟨p, P, tl, ⟨-, -, H, HM, AB0⟩, ⟨hp, r21, r22, hP, W, Tv, T, h29, hw, TMh⟩, -⟩ := R
  have V := W.1
  have s10 := V.s.1
  refine Pr_t (h1 := h) (v := match plc k (nS P) with
    | none => -5
    | some j => match oRD P tl with
      | none => -3
      | some o => nI (o j)) (fun Q => ?_) (fun Q2 hQ2 => t168 HM hP V T (fun h' F => hQ2 h' (Rel_Fm F R')))
  have c135' : ∀ Q', aM (d + 19) 135 [.ref 2, .int k] h Q' = Q' (some (.int (match plc k (nS P) with
    | none => -5
    | some _ => if (oRD P tl).isSome = true then nI 0 else -3))) h := fun Q' => c135 H hp r21 V TMh
  have m5 : (-5 : Int32) < 0 := by decide
  have m3 : (-3 : Int32) < 0 := by decide
  have t2 := TMh.2.2.2
  rcases plc_cases k (nS P) (by omega) with ⟨j, hj, rfl, e⟩ | ⟨e, _⟩ | ⟨e, _⟩
  · rw [e] at c135' ⊢
    cases ho : oRD P tl with
    | none =>
      simp only [ho, Option.isSome_none, Bool.false_eq_true, if_false] at c135'
      simp (disch := first | omega | assumption | exact gt_2 H | exact gt_29 H | (simp only [gT_pA, gT_pI, gT_pR]; first | assumption | exact gt_2 H | exact gt_29 H) | fail) only [s99_0, s99_1, s99_2, s99_5, s99_6, s99_7, s99_10, s99_11, s99_14, s99_15, s99_18, s99_21, s99_22, s99_23, ai_34 H, gr_29_4 H, gr_2_3 H, gt_2 H, gt_29 H, am99, isRf_ref, true_and, and_true, aPs_s, aPs_n, b01_0, b01_1, nI_clamp, ix_nI, inb_nI, lt_nI, eq_nI, nn_nI, eq0_nI, pk_mul, nI_add, lt_T, lt_F, if_true, if_false, true_and, and_true, neg1_nI, neg1_lt, neg1_neg, lt_neg1, eqN_F, eq_self,  c135', m3]
    | some o =>
      obtain ⟨O, L⟩ := t2 o ho
      have el := (L.1 j hj).1
      simp only [ho, Option.isSome_some, if_true] at c135'
      simp (disch := first | omega | assumption | exact gt_2 H | exact gt_29 H | (simp only [gT_pA, gT_pI, gT_pR]; first | assumption | exact gt_2 H | exact gt_29 H) | fail) only [s99_0, s99_1, s99_2, s99_5, s99_6, s99_7, s99_10, s99_11, s99_14, s99_15, s99_18, s99_21, s99_22, s99_23, ai_34 H, gr_29_4 H, gr_2_3 H, gt_2 H, gt_29 H, am99, isRf_ref, true_and, and_true, aPs_s, aPs_n, b01_0, b01_1, nI_clamp, ix_nI, inb_nI, lt_nI, eq_nI, nn_nI, eq0_nI, pk_mul, nI_add, lt_T, lt_F, if_true, if_false, true_and, and_true, neg1_nI, neg1_lt, neg1_neg, lt_neg1, eqN_F, eq_self,  c135', el, show j < 10 by omega, nn_nI]
  · rw [e] at c135' ⊢
    simp (disch := first | omega | assumption | exact gt_2 H | exact gt_29 H | (simp only [gT_pA, gT_pI, gT_pR]; first | assumption | exact gt_2 H | exact gt_29 H) | fail) only [s99_0, s99_1, s99_2, s99_5, s99_6, s99_7, s99_10, s99_11, s99_14, s99_15, s99_18, s99_21, s99_22, s99_23, ai_34 H, gr_29_4 H, gr_2_3 H, gt_2 H, gt_29 H, am99, isRf_ref, true_and, and_true, aPs_s, aPs_n, b01_0, b01_1, nI_clamp, ix_nI, inb_nI, lt_nI, eq_nI, nn_nI, eq0_nI, pk_mul, nI_add, lt_T, lt_F, if_true, if_false, true_and, and_true, neg1_nI, neg1_lt, neg1_neg, lt_neg1, eqN_F, eq_self,  c135', m5]
  · rw [e] at c135' ⊢
    simp (disch := first | omega | assumption | exact gt_2 H | exact gt_29 H | (simp only [gT_pA, gT_pI, gT_pR]; first | assumption | exact gt_2 H | exact gt_29 H) | fail) only [s99_0, s99_1, s99_2, s99_5, s99_6, s99_7, s99_10, s99_11, s99_14, s99_15, s99_18, s99_21, s99_22, s99_23, ai_34 H, gr_29_4 H, gr_2_3 H, gt_2 H, gt_29 H, am99, isRf_ref, true_and, and_true, aPs_s, aPs_n, b01_0, b01_1, nI_clamp, ix_nI, inb_nI, lt_nI, eq_nI, nn_nI, eq0_nI, pk_mul, nI_add, lt_T, lt_F, if_true, if_false, true_and, and_true, neg1_nI, neg1_lt, neg1_neg, lt_neg1, eqN_F, eq_self,  c135', m5]
set_option maxHeartbeats 4000000 in
theorem p_load (R : Rel hs h) {k : Int32} : Pr d hs h 100 171 [.ref 2, .int k] [.ref 65, .int k] := by
  have R' := R
  obtain ⟨p, P, tl, ⟨-, -, H, HM, AB0⟩, ⟨hp, r21, r22, hP, W, Tv, T, h29, hw, TMh⟩, -⟩ := R
  have V := W.1
  have s10 := V.s.1
  refine Pr_t (h1 := h) (v := match plc k (nS P) with
    | none => -5
    | some j => match oRD P tl with
      | none => -3
      | some o => nI (zLd P o j)) (fun Q => ?_) (fun Q2 hQ2 => t171 HM hP V T (fun h' F => hQ2 h' (Rel_Fm F R')))
  have c135' : ∀ Q', aM (d + 19) 135 [.ref 2, .int k] h Q' = Q' (some (.int (match plc k (nS P) with
    | none => -5
    | some _ => if (oRD P tl).isSome = true then nI 0 else -3))) h := fun Q' => c135 H hp r21 V TMh
  have m5 : (-5 : Int32) < 0 := by decide
  have m3 : (-3 : Int32) < 0 := by decide
  have t2 := TMh.2.2.2
  rcases plc_cases k (nS P) (by omega) with ⟨j, hj, rfl, e⟩ | ⟨e, _⟩ | ⟨e, _⟩
  · rw [e] at c135' ⊢
    cases ho : oRD P tl with
    | none =>
      simp only [ho, Option.isSome_none, Bool.false_eq_true, if_false] at c135'
      simp (disch := first | omega | assumption | exact gt_2 H | exact gt_29 H | (simp only [gT_pA, gT_pI, gT_pR]; first | assumption | exact gt_2 H | exact gt_29 H) | fail) only [s100_0, s100_1, s100_2, s100_5, s100_6, s100_7, s100_10, s100_11, s100_14, s100_15, s100_18, s100_21, s100_22, s100_23, ai_36 H, gr_29_6 H, gr_2_3 H, gt_2 H, gt_29 H, am100, isRf_ref, true_and, and_true, aPs_s, aPs_n, b01_0, b01_1, nI_clamp, ix_nI, inb_nI, lt_nI, eq_nI, nn_nI, eq0_nI, pk_mul, nI_add, lt_T, lt_F, if_true, if_false, true_and, and_true, neg1_nI, neg1_lt, neg1_neg, lt_neg1, eqN_F, eq_self,  c135', m3]
    | some o =>
      obtain ⟨O, L⟩ := t2 o ho
      have el := (L.1 j hj).2.2
      simp only [ho, Option.isSome_some, if_true] at c135'
      simp (disch := first | omega | assumption | exact gt_2 H | exact gt_29 H | (simp only [gT_pA, gT_pI, gT_pR]; first | assumption | exact gt_2 H | exact gt_29 H) | fail) only [s100_0, s100_1, s100_2, s100_5, s100_6, s100_7, s100_10, s100_11, s100_14, s100_15, s100_18, s100_21, s100_22, s100_23, ai_36 H, gr_29_6 H, gr_2_3 H, gt_2 H, gt_29 H, am100, isRf_ref, true_and, and_true, aPs_s, aPs_n, b01_0, b01_1, nI_clamp, ix_nI, inb_nI, lt_nI, eq_nI, nn_nI, eq0_nI, pk_mul, nI_add, lt_T, lt_F, if_true, if_false, true_and, and_true, neg1_nI, neg1_lt, neg1_neg, lt_neg1, eqN_F, eq_self,  c135', el, show j < 10 by omega, nn_nI]
  · rw [e] at c135' ⊢
    simp (disch := first | omega | assumption | exact gt_2 H | exact gt_29 H | (simp only [gT_pA, gT_pI, gT_pR]; first | assumption | exact gt_2 H | exact gt_29 H) | fail) only [s100_0, s100_1, s100_2, s100_5, s100_6, s100_7, s100_10, s100_11, s100_14, s100_15, s100_18, s100_21, s100_22, s100_23, ai_36 H, gr_29_6 H, gr_2_3 H, gt_2 H, gt_29 H, am100, isRf_ref, true_and, and_true, aPs_s, aPs_n, b01_0, b01_1, nI_clamp, ix_nI, inb_nI, lt_nI, eq_nI, nn_nI, eq0_nI, pk_mul, nI_add, lt_T, lt_F, if_true, if_false, true_and, and_true, neg1_nI, neg1_lt, neg1_neg, lt_neg1, eqN_F, eq_self,  c135', m5]
  · rw [e] at c135' ⊢
    simp (disch := first | omega | assumption | exact gt_2 H | exact gt_29 H | (simp only [gT_pA, gT_pI, gT_pR]; first | assumption | exact gt_2 H | exact gt_29 H) | fail) only [s100_0, s100_1, s100_2, s100_5, s100_6, s100_7, s100_10, s100_11, s100_14, s100_15, s100_18, s100_21, s100_22, s100_23, ai_36 H, gr_29_6 H, gr_2_3 H, gt_2 H, gt_29 H, am100, isRf_ref, true_and, and_true, aPs_s, aPs_n, b01_0, b01_1, nI_clamp, ix_nI, inb_nI, lt_nI, eq_nI, nn_nI, eq0_nI, pk_mul, nI_add, lt_T, lt_F, if_true, if_false, true_and, and_true, neg1_nI, neg1_lt, neg1_neg, lt_neg1, eqN_F, eq_self,  c135', m5]
set_option maxHeartbeats 4000000 in
theorem p_over (R : Rel hs h) {k : Int32} : Pr d hs h 101 172 [.ref 2, .int k] [.ref 65, .int k] := by
  have R' := R
  obtain ⟨p, P, tl, ⟨-, -, H, HM, AB0⟩, ⟨hp, r21, r22, hP, W, Tv, T, h29, hw, TMh⟩, -⟩ := R
  have V := W.1
  have s10 := V.s.1
  refine Pr_t (h1 := h) (v := match plc k (nS P) with
    | none => -5
    | some j => match oRD P tl with
      | none => -3
      | some o => oI (mOv P o j)) (fun Q => ?_) (fun Q2 hQ2 => t172 HM hP V T (fun h' F => hQ2 h' (Rel_Fm F R')))
  have c135' : ∀ Q', aM (d + 19) 135 [.ref 2, .int k] h Q' = Q' (some (.int (match plc k (nS P) with
    | none => -5
    | some _ => if (oRD P tl).isSome = true then nI 0 else -3))) h := fun Q' => c135 H hp r21 V TMh
  have m5 : (-5 : Int32) < 0 := by decide
  have m3 : (-3 : Int32) < 0 := by decide
  have t2 := TMh.2.2.2
  rcases plc_cases k (nS P) (by omega) with ⟨j, hj, rfl, e⟩ | ⟨e, _⟩ | ⟨e, _⟩
  · rw [e] at c135' ⊢
    cases ho : oRD P tl with
    | none =>
      simp only [ho, Option.isSome_none, Bool.false_eq_true, if_false] at c135'
      simp (disch := first | omega | assumption | exact gt_2 H | exact gt_29 H | (simp only [gT_pA, gT_pI, gT_pR]; first | assumption | exact gt_2 H | exact gt_29 H) | fail) only [s101_0, s101_1, s101_2, s101_5, s101_6, s101_7, s101_10, s101_11, s101_14, s101_15, s101_18, s101_21, s101_22, s101_23, ai_35 H, gr_29_5 H, gr_2_3 H, gt_2 H, gt_29 H, am101, isRf_ref, true_and, and_true, aPs_s, aPs_n, b01_0, b01_1, nI_clamp, ix_nI, inb_nI, lt_nI, eq_nI, nn_nI, eq0_nI, pk_mul, nI_add, lt_T, lt_F, if_true, if_false, true_and, and_true, neg1_nI, neg1_lt, neg1_neg, lt_neg1, eqN_F, eq_self,  c135', m3]
    | some o =>
      obtain ⟨O, L⟩ := t2 o ho
      have el := (L.1 j hj).2.1
      simp only [ho, Option.isSome_some, if_true] at c135'
      simp (disch := first | omega | assumption | exact gt_2 H | exact gt_29 H | (simp only [gT_pA, gT_pI, gT_pR]; first | assumption | exact gt_2 H | exact gt_29 H) | fail) only [s101_0, s101_1, s101_2, s101_5, s101_6, s101_7, s101_10, s101_11, s101_14, s101_15, s101_18, s101_21, s101_22, s101_23, ai_35 H, gr_29_5 H, gr_2_3 H, gt_2 H, gt_29 H, am101, isRf_ref, true_and, and_true, aPs_s, aPs_n, b01_0, b01_1, nI_clamp, ix_nI, inb_nI, lt_nI, eq_nI, nn_nI, eq0_nI, pk_mul, nI_add, lt_T, lt_F, if_true, if_false, true_and, and_true, neg1_nI, neg1_lt, neg1_neg, lt_neg1, eqN_F, eq_self,  c135', el, show j < 10 by omega, nn_nI]
  · rw [e] at c135' ⊢
    simp (disch := first | omega | assumption | exact gt_2 H | exact gt_29 H | (simp only [gT_pA, gT_pI, gT_pR]; first | assumption | exact gt_2 H | exact gt_29 H) | fail) only [s101_0, s101_1, s101_2, s101_5, s101_6, s101_7, s101_10, s101_11, s101_14, s101_15, s101_18, s101_21, s101_22, s101_23, ai_35 H, gr_29_5 H, gr_2_3 H, gt_2 H, gt_29 H, am101, isRf_ref, true_and, and_true, aPs_s, aPs_n, b01_0, b01_1, nI_clamp, ix_nI, inb_nI, lt_nI, eq_nI, nn_nI, eq0_nI, pk_mul, nI_add, lt_T, lt_F, if_true, if_false, true_and, and_true, neg1_nI, neg1_lt, neg1_neg, lt_neg1, eqN_F, eq_self,  c135', m5]
  · rw [e] at c135' ⊢
    simp (disch := first | omega | assumption | exact gt_2 H | exact gt_29 H | (simp only [gT_pA, gT_pI, gT_pR]; first | assumption | exact gt_2 H | exact gt_29 H) | fail) only [s101_0, s101_1, s101_2, s101_5, s101_6, s101_7, s101_10, s101_11, s101_14, s101_15, s101_18, s101_21, s101_22, s101_23, ai_35 H, gr_29_5 H, gr_2_3 H, gt_2 H, gt_29 H, am101, isRf_ref, true_and, and_true, aPs_s, aPs_n, b01_0, b01_1, nI_clamp, ix_nI, inb_nI, lt_nI, eq_nI, nn_nI, eq0_nI, pk_mul, nI_add, lt_T, lt_F, if_true, if_false, true_and, and_true, neg1_nI, neg1_lt, neg1_neg, lt_neg1, eqN_F, eq_self,  c135', m5]
set_option maxHeartbeats 4000000 in
theorem p_peak (R : Rel hs h) {k : Int32} : Pr d hs h 102 173 [.ref 2, .int k] [.ref 65, .int k] := by
  have R' := R
  obtain ⟨p, P, tl, ⟨-, -, H, HM, AB0⟩, ⟨hp, r21, r22, hP, W, Tv, T, h29, hw, TMh⟩, -⟩ := R
  have V := W.1
  have s10 := V.s.1
  refine Pr_t (h1 := h) (v := match plc k 3 with
    | none => -5
    | some j => match oRD P tl with
      | none => -3
      | some o => aPk P o j) (fun Q => ?_) (fun Q2 hQ2 => t173 HM hP V T (fun h' F => hQ2 h' (Rel_Fm F R')))
  have e3 := TMh.2.2.1
  have t2 := TMh.2.2.2
  have c53' : ∀ Q', aM (d + 19) 53 [.ref p] h Q' = Q' (some (.int (nI (zTa P (nS P))))) h := fun Q' => c53 H hp TMh.1.1 V
  rcases plc_cases k 3 (by omega) with ⟨j, hj, rfl, e⟩ | ⟨e, e1, e2⟩ | ⟨e, e1, e2, e4, e5⟩
  · rw [e]
    have l1 : ¬ nI 2 < nI j := by rw [lt_nI (by omega) (by omega)]; omega
    cases ho : oRD P tl with
    | none =>
      rw [ho] at e3
      simp (disch := first | omega | assumption | exact gtP H hp | exact gt_2 H | exact gt_29 H | (simp only [gT_pA, gT_pI, gT_pR]; first | assumption | exact gtP H hp | exact gt_2 H | exact gt_29 H) | fail) only [s102_0, s102_1, s102_4, s102_5, s102_6, s102_9, s102_11, s102_12, s102_13, s102_16, s102_19, s102_22, s102_24, s102_25, s102_26, s102_27, s102_30, s102_31, s102_34, s102_37, s102_38, s102_39, s102_42, s102_45, s102_46, s102_47, s102_48, s102_51, s102_52, s102_53, s102_54, s102_57, s102_58, s102_61, s102_62, s102_65, s102_68, s102_69, s102_70, ai_36 H, gr_29_6 H, gr_2_3 H, gtP H hp, gt_2 H, gt_29 H, am102, isRf_ref, true_and, and_true, aPs_s, aPs_n, b01_0, b01_1, nI_clamp, ix_nI, inb_nI, lt_nI, eq_nI, nn_nI, eq0_nI, pk_mul, nI_add, lt_T, lt_F, if_true, if_false, true_and, and_true, neg1_nI, neg1_lt, neg1_neg, lt_neg1, eqN_F, eq_self,  l1, e3, Option.isSome_none, zB_f, nn_nI]
    | some o =>
      obtain ⟨O, L⟩ := t2 o ho
      rw [ho] at e3
      have c89' : ∀ Q', aM (d + 19) 89 [.ref 29] h Q' = Q' (some (.int (oI (pkP P o (nS P))))) h := fun Q' => c89 H hp V TMh.1 O L
      have e3 : gI h 29 3 = nI 1 := e3
      unfold aPk
      rcases (show j = 0 ∨ j = 1 ∨ j = 2 by omega) with rfl | rfl | rfl
      · cases hq : pkP P o (nS P) with
        | none =>
          rw [hq] at c89'
          simp (disch := first | omega | assumption | exact gtP H hp | exact gt_2 H | exact gt_29 H | (simp only [gT_pA, gT_pI, gT_pR]; first | assumption | exact gtP H hp | exact gt_2 H | exact gt_29 H) | fail) only [s102_0, s102_1, s102_4, s102_5, s102_6, s102_9, s102_11, s102_12, s102_13, s102_16, s102_19, s102_22, s102_24, s102_25, s102_26, s102_27, s102_30, s102_31, s102_34, s102_37, s102_38, s102_39, s102_42, s102_45, s102_46, s102_47, s102_48, s102_51, s102_52, s102_53, s102_54, s102_57, s102_58, s102_61, s102_62, s102_65, s102_68, s102_69, s102_70, ai_36 H, gr_29_6 H, gr_2_3 H, gtP H hp, gt_2 H, gt_29 H, am102, isRf_ref, true_and, and_true, aPs_s, aPs_n, b01_0, b01_1, nI_clamp, ix_nI, inb_nI, lt_nI, eq_nI, nn_nI, eq0_nI, pk_mul, nI_add, lt_T, lt_F, if_true, if_false, true_and, and_true, neg1_nI, neg1_lt, neg1_neg, lt_neg1, eqN_F, eq_self,  l1, e3, nI1_0, nn_nI, c89', oI_n, iflt_m1, pkM, hq]
        | some b =>
          have hb := pkP_lt hq
          have el := (L.1 b hb).2.2
          rw [hq] at c89'
          simp (disch := first | omega | assumption | exact gtP H hp | exact gt_2 H | exact gt_29 H | (simp only [gT_pA, gT_pI, gT_pR]; first | assumption | exact gtP H hp | exact gt_2 H | exact gt_29 H) | fail) only [s102_0, s102_1, s102_4, s102_5, s102_6, s102_9, s102_11, s102_12, s102_13, s102_16, s102_19, s102_22, s102_24, s102_25, s102_26, s102_27, s102_30, s102_31, s102_34, s102_37, s102_38, s102_39, s102_42, s102_45, s102_46, s102_47, s102_48, s102_51, s102_52, s102_53, s102_54, s102_57, s102_58, s102_61, s102_62, s102_65, s102_68, s102_69, s102_70, ai_36 H, gr_29_6 H, gr_2_3 H, gtP H hp, gt_2 H, gt_29 H, am102, isRf_ref, true_and, and_true, aPs_s, aPs_n, b01_0, b01_1, nI_clamp, ix_nI, inb_nI, lt_nI, eq_nI, nn_nI, eq0_nI, pk_mul, nI_add, lt_T, lt_F, if_true, if_false, true_and, and_true, neg1_nI, neg1_lt, neg1_neg, lt_neg1, eqN_F, eq_self,  l1, e3, nI1_0, nn_nI, c89', oI_s, el, show b < 10 by omega, pkM, hq]
      · simp (disch := first | omega | assumption | exact gtP H hp | exact gt_2 H | exact gt_29 H | (simp only [gT_pA, gT_pI, gT_pR]; first | assumption | exact gtP H hp | exact gt_2 H | exact gt_29 H) | fail) only [s102_0, s102_1, s102_4, s102_5, s102_6, s102_9, s102_11, s102_12, s102_13, s102_16, s102_19, s102_22, s102_24, s102_25, s102_26, s102_27, s102_30, s102_31, s102_34, s102_37, s102_38, s102_39, s102_42, s102_45, s102_46, s102_47, s102_48, s102_51, s102_52, s102_53, s102_54, s102_57, s102_58, s102_61, s102_62, s102_65, s102_68, s102_69, s102_70, ai_36 H, gr_29_6 H, gr_2_3 H, gtP H hp, gt_2 H, gt_29 H, am102, isRf_ref, true_and, and_true, aPs_s, aPs_n, b01_0, b01_1, nI_clamp, ix_nI, inb_nI, lt_nI, eq_nI, nn_nI, eq0_nI, pk_mul, nI_add, lt_T, lt_F, if_true, if_false, true_and, and_true, neg1_nI, neg1_lt, neg1_neg, lt_neg1, eqN_F, eq_self,  l1, e3, nI1_0, nn_nI, c89']
      · dsimp only
        rw [zTs_zTa O]
        simp (disch := first | omega | assumption | exact gtP H hp | exact gt_2 H | exact gt_29 H | (simp only [gT_pA, gT_pI, gT_pR]; first | assumption | exact gtP H hp | exact gt_2 H | exact gt_29 H) | fail) only [s102_0, s102_1, s102_4, s102_5, s102_6, s102_9, s102_11, s102_12, s102_13, s102_16, s102_19, s102_22, s102_24, s102_25, s102_26, s102_27, s102_30, s102_31, s102_34, s102_37, s102_38, s102_39, s102_42, s102_45, s102_46, s102_47, s102_48, s102_51, s102_52, s102_53, s102_54, s102_57, s102_58, s102_61, s102_62, s102_65, s102_68, s102_69, s102_70, ai_36 H, gr_29_6 H, gr_2_3 H, gtP H hp, gt_2 H, gt_29 H, am102, isRf_ref, true_and, and_true, aPs_s, aPs_n, b01_0, b01_1, nI_clamp, ix_nI, inb_nI, lt_nI, eq_nI, nn_nI, eq0_nI, pk_mul, nI_add, lt_T, lt_F, if_true, if_false, true_and, and_true, neg1_nI, neg1_lt, neg1_neg, lt_neg1, eqN_F, eq_self,  l1, e3, nI1_0, nn_nI, r21, c53']
  · simp (disch := first | omega | assumption | exact gtP H hp | exact gt_2 H | exact gt_29 H | (simp only [gT_pA, gT_pI, gT_pR]; first | assumption | exact gtP H hp | exact gt_2 H | exact gt_29 H) | fail) only [s102_0, s102_1, s102_4, s102_5, s102_6, s102_9, s102_11, s102_12, s102_13, s102_16, s102_19, s102_22, s102_24, s102_25, s102_26, s102_27, s102_30, s102_31, s102_34, s102_37, s102_38, s102_39, s102_42, s102_45, s102_46, s102_47, s102_48, s102_51, s102_52, s102_53, s102_54, s102_57, s102_58, s102_61, s102_62, s102_65, s102_68, s102_69, s102_70, ai_36 H, gr_29_6 H, gr_2_3 H, gtP H hp, gt_2 H, gt_29 H, am102, isRf_ref, true_and, and_true, aPs_s, aPs_n, b01_0, b01_1, nI_clamp, ix_nI, inb_nI, lt_nI, eq_nI, nn_nI, eq0_nI, pk_mul, nI_add, lt_T, lt_F, if_true, if_false, true_and, and_true, neg1_nI, neg1_lt, neg1_neg, lt_neg1, eqN_F, eq_self,  e, e1]
  · have : nI 3 - nI 1 = nI 2 := by decide
    rw [this] at e5
    simp (disch := first | omega | assumption | exact gtP H hp | exact gt_2 H | exact gt_29 H | (simp only [gT_pA, gT_pI, gT_pR]; first | assumption | exact gtP H hp | exact gt_2 H | exact gt_29 H) | fail) only [s102_0, s102_1, s102_4, s102_5, s102_6, s102_9, s102_11, s102_12, s102_13, s102_16, s102_19, s102_22, s102_24, s102_25, s102_26, s102_27, s102_30, s102_31, s102_34, s102_37, s102_38, s102_39, s102_42, s102_45, s102_46, s102_47, s102_48, s102_51, s102_52, s102_53, s102_54, s102_57, s102_58, s102_61, s102_62, s102_65, s102_68, s102_69, s102_70, ai_36 H, gr_29_6 H, gr_2_3 H, gtP H hp, gt_2 H, gt_29 H, am102, isRf_ref, true_and, and_true, aPs_s, aPs_n, b01_0, b01_1, nI_clamp, ix_nI, inb_nI, lt_nI, eq_nI, nn_nI, eq0_nI, pk_mul, nI_add, lt_T, lt_F, if_true, if_false, true_and, and_true, neg1_nI, neg1_lt, neg1_neg, lt_neg1, eqN_F, eq_self,  e, e1, e5]
theorem bf_w {P : Nat → Nat → Int32} {k : Int32} {b : Nat} (h : bf P k = some b) : b < 12 ∧ k = nI b ∧ P 68 b ≠ 0 := by
  rcases bf_cases P k with ⟨c, hc, rfl, e, h0⟩ | e
  · rw [e] at h; cases h; exact ⟨hc, rfl, h0⟩
  · rw [e] at h; cases h
theorem plc_or (k : Int32) (n : Nat) (hn : n < 2 ^ 31) : (∃ j, j < n ∧ k = nI j ∧ plc k n = some j) ∨ plc k n = none := by
  rcases plc_cases k n hn with q | ⟨q, _⟩ | ⟨q, _⟩
  · exact Or.inl q
  · exact Or.inr q
  · exact Or.inr q
set_option maxHeartbeats 4000000 in
theorem p_buf (R : Rel hs h) {k w : Int32} : Pr d hs h 103 174 [.ref 2, .int k, .int w] [.ref 65, .int k, .int w] := by
  have R' := R
  obtain ⟨p, P, tl, ⟨-, -, H, HM, AB0⟩, ⟨hp, r21, r22, hP, W, Tv, T, h29, hw, TMh⟩, -⟩ := R
  have V := W.1
  have s10 := V.s.1
  refine Pr_t (h1 := h) (v := match bf P k with
    | none => -5
    | some b => match plc w 5 with
      | none => -7
      | some j => if j = 0 then nI (zS P b) else if j = 1 then oI (mWr P b) else if j = 2 then (if P 72 b = 0 then nI 0 else nI 1) else match oRD P tl with
        | none => -3
        | some o => if j = 3 then nI (fr P o b) else oI (ti P o b)) (fun Q => ?_) (fun Q2 hQ2 => t174 HM hP V T (fun h' F => hQ2 h' (Rel_Fm F R')))
  have C := TMh.1.1
  have f3 := TMh.2.2.1
  have t2 := TMh.2.2.2
  have c44' : ∀ Q', aM (d + 19) 44 [.ref p, .int k] h Q' = Q' (some (.int (zB (bf P k).isSome))) h := fun Q' => c44 H hp C W
  rcases bf_cases P k with ⟨b, hb, rfl, e, h68⟩ | e
  · rw [e] at c44' ⊢
    rcases plc_cases w 5 (by omega) with ⟨j, hj, rfl, ew⟩ | ⟨ew, e1, e2⟩ | ⟨ew, e1, e2, e3, e4⟩
    · rw [ew]
      have l4 : ¬ nI 4 < nI j := by rw [lt_nI (by omega) (by omega)]; omega
      have j0 : ¬ nI j < 0 := by rw [nn_nI (by omega)]; exact not_false
      rcases (show j = 0 ∨ j = 1 ∨ j = 2 ∨ j = 3 ∨ j = 4 by omega) with rfl | rfl | rfl | rfl | rfl
      · have el := TMh.2.1.2.1.1 b hb
        have l2 : ¬ nI 2 < nI 0 := by decide
        simp (disch := first | omega | assumption | exact gtP H hp | exact gt_2 H | exact gt_29 H | exact gt_30 H | (simp only [gT_pA, gT_pI, gT_pR]; first | assumption | exact gtP H hp | exact gt_2 H | exact gt_29 H | exact gt_30 H) | fail) only [s103_0, s103_1, s103_4, s103_5, s103_8, s103_11, s103_13, s103_14, s103_15, s103_18, s103_19, s103_20, s103_23, s103_25, s103_26, s103_27, s103_28, s103_31, s103_32, s103_35, s103_38, s103_41, s103_43, s103_44, s103_45, s103_76, s103_77, s103_80, s103_83, s103_86, s103_87, s103_88, s103_89, s103_90, s103_93, s103_96, s103_97, s103_98, s103_99, s103_100, s103_103, s103_106, s103_107, s103_108, s103_111, s103_112, s103_115, s103_116, s103_117, s103_118, s103_121, s103_124, s103_125, s103_126, s103_127, s103_128, s103_131, s103_134, s103_135, s103_136, aiP_5 H hp, ai_31 H, ai_37 H, ai_38 H, azP_4 H hp, grP_3 H hp, grP_4 H hp, gr_29_0 H, gr_29_7 H, gr_29_8 H, gr_2_3 H, gr_30_1 H, gtP H hp, gt_2 H, gt_29 H, gt_30 H, am103, isRf_ref, true_and, and_true, aPs_s, aPs_n, b01_0, b01_1, nI_clamp, ix_nI, inb_nI, lt_nI, eq_nI, nn_nI, eq0_nI, pk_mul, nI_add, lt_T, lt_F, if_true, if_false, true_and, and_true, neg1_nI, neg1_lt, neg1_neg, lt_neg1, eqN_F, eq_self,  r21, c44', Option.isSome_some, Bool.not_false, Bool.not_true, Bool.true_and, Bool.false_and, Bool.and_true, Bool.and_false, Bool.or_true, Bool.or_false, Bool.true_or, Bool.false_or, Bool.true_eq_false, Bool.false_eq_true, if_true, if_false, Option.isSome_some, Option.isSome_none, Option.isNone_some, Option.isNone_none, zB_t, zB_f, nI1_0, nI0_0, l4, j0, l2, el, hb]
      · have el := C.x hb
        have l2 : ¬ nI 2 < nI 1 := by decide
        simp (disch := first | omega | assumption | exact gtP H hp | exact gt_2 H | exact gt_29 H | exact gt_30 H | (simp only [gT_pA, gT_pI, gT_pR]; first | assumption | exact gtP H hp | exact gt_2 H | exact gt_29 H | exact gt_30 H) | fail) only [s103_0, s103_1, s103_4, s103_5, s103_8, s103_11, s103_13, s103_14, s103_15, s103_18, s103_19, s103_20, s103_23, s103_25, s103_26, s103_27, s103_28, s103_31, s103_32, s103_35, s103_38, s103_41, s103_43, s103_44, s103_45, s103_76, s103_77, s103_80, s103_83, s103_86, s103_87, s103_88, s103_89, s103_90, s103_93, s103_96, s103_97, s103_98, s103_99, s103_100, s103_103, s103_106, s103_107, s103_108, s103_111, s103_112, s103_115, s103_116, s103_117, s103_118, s103_121, s103_124, s103_125, s103_126, s103_127, s103_128, s103_131, s103_134, s103_135, s103_136, aiP_5 H hp, ai_31 H, ai_37 H, ai_38 H, azP_4 H hp, grP_3 H hp, grP_4 H hp, gr_29_0 H, gr_29_7 H, gr_29_8 H, gr_2_3 H, gr_30_1 H, gtP H hp, gt_2 H, gt_29 H, gt_30 H, am103, isRf_ref, true_and, and_true, aPs_s, aPs_n, b01_0, b01_1, nI_clamp, ix_nI, inb_nI, lt_nI, eq_nI, nn_nI, eq0_nI, pk_mul, nI_add, lt_T, lt_F, if_true, if_false, true_and, and_true, neg1_nI, neg1_lt, neg1_neg, lt_neg1, eqN_F, eq_self,  r21, c44', Option.isSome_some, Bool.not_false, Bool.not_true, Bool.true_and, Bool.false_and, Bool.and_true, Bool.and_false, Bool.or_true, Bool.or_false, Bool.true_or, Bool.false_or, Bool.true_eq_false, Bool.false_eq_true, if_true, if_false, Option.isSome_some, Option.isSome_none, Option.isNone_some, Option.isNone_none, zB_t, zB_f, nI1_0, nI0_0, l4, j0, l2, el, hb]
      · have el := C.v hb
        have l2 : ¬ nI 2 < nI 2 := by decide
        have y2 := (V.2.1 b hb).2.2.1
        by_cases h72 : P 72 b = 0
        · rw [h72] at y2
          simp (disch := first | omega | assumption | exact gtP H hp | exact gt_2 H | exact gt_29 H | exact gt_30 H | (simp only [gT_pA, gT_pI, gT_pR]; first | assumption | exact gtP H hp | exact gt_2 H | exact gt_29 H | exact gt_30 H) | fail) only [s103_0, s103_1, s103_4, s103_5, s103_8, s103_11, s103_13, s103_14, s103_15, s103_18, s103_19, s103_20, s103_23, s103_25, s103_26, s103_27, s103_28, s103_31, s103_32, s103_35, s103_38, s103_41, s103_43, s103_44, s103_45, s103_76, s103_77, s103_80, s103_83, s103_86, s103_87, s103_88, s103_89, s103_90, s103_93, s103_96, s103_97, s103_98, s103_99, s103_100, s103_103, s103_106, s103_107, s103_108, s103_111, s103_112, s103_115, s103_116, s103_117, s103_118, s103_121, s103_124, s103_125, s103_126, s103_127, s103_128, s103_131, s103_134, s103_135, s103_136, aiP_5 H hp, ai_31 H, ai_37 H, ai_38 H, azP_4 H hp, grP_3 H hp, grP_4 H hp, gr_29_0 H, gr_29_7 H, gr_29_8 H, gr_2_3 H, gr_30_1 H, gtP H hp, gt_2 H, gt_29 H, gt_30 H, am103, isRf_ref, true_and, and_true, aPs_s, aPs_n, b01_0, b01_1, nI_clamp, ix_nI, inb_nI, lt_nI, eq_nI, nn_nI, eq0_nI, pk_mul, nI_add, lt_T, lt_F, if_true, if_false, true_and, and_true, neg1_nI, neg1_lt, neg1_neg, lt_neg1, eqN_F, eq_self,  r21, c44', Option.isSome_some, Bool.not_false, Bool.not_true, Bool.true_and, Bool.false_and, Bool.and_true, Bool.and_false, Bool.or_true, Bool.or_false, Bool.true_or, Bool.false_or, Bool.true_eq_false, Bool.false_eq_true, if_true, if_false, Option.isSome_some, Option.isSome_none, Option.isNone_some, Option.isNone_none, zB_t, zB_f, nI1_0, nI0_0, l4, j0, l2, el, hb, h72, y2]
        · simp (disch := first | omega | assumption | exact gtP H hp | exact gt_2 H | exact gt_29 H | exact gt_30 H | (simp only [gT_pA, gT_pI, gT_pR]; first | assumption | exact gtP H hp | exact gt_2 H | exact gt_29 H | exact gt_30 H) | fail) only [s103_0, s103_1, s103_4, s103_5, s103_8, s103_11, s103_13, s103_14, s103_15, s103_18, s103_19, s103_20, s103_23, s103_25, s103_26, s103_27, s103_28, s103_31, s103_32, s103_35, s103_38, s103_41, s103_43, s103_44, s103_45, s103_76, s103_77, s103_80, s103_83, s103_86, s103_87, s103_88, s103_89, s103_90, s103_93, s103_96, s103_97, s103_98, s103_99, s103_100, s103_103, s103_106, s103_107, s103_108, s103_111, s103_112, s103_115, s103_116, s103_117, s103_118, s103_121, s103_124, s103_125, s103_126, s103_127, s103_128, s103_131, s103_134, s103_135, s103_136, aiP_5 H hp, ai_31 H, ai_37 H, ai_38 H, azP_4 H hp, grP_3 H hp, grP_4 H hp, gr_29_0 H, gr_29_7 H, gr_29_8 H, gr_2_3 H, gr_30_1 H, gtP H hp, gt_2 H, gt_29 H, gt_30 H, am103, isRf_ref, true_and, and_true, aPs_s, aPs_n, b01_0, b01_1, nI_clamp, ix_nI, inb_nI, lt_nI, eq_nI, nn_nI, eq0_nI, pk_mul, nI_add, lt_T, lt_F, if_true, if_false, true_and, and_true, neg1_nI, neg1_lt, neg1_neg, lt_neg1, eqN_F, eq_self,  r21, c44', Option.isSome_some, Bool.not_false, Bool.not_true, Bool.true_and, Bool.false_and, Bool.and_true, Bool.and_false, Bool.or_true, Bool.or_false, Bool.true_or, Bool.false_or, Bool.true_eq_false, Bool.false_eq_true, if_true, if_false, Option.isSome_some, Option.isSome_none, Option.isNone_some, Option.isNone_none, zB_t, zB_f, nI1_0, nI0_0, l4, j0, l2, el, hb, h72, y2]
      · have l2 : nI 2 < nI 3 := by decide
        cases ho : oRD P tl with
        | none =>
          rw [ho] at f3
          simp (disch := first | omega | assumption | exact gtP H hp | exact gt_2 H | exact gt_29 H | exact gt_30 H | (simp only [gT_pA, gT_pI, gT_pR]; first | assumption | exact gtP H hp | exact gt_2 H | exact gt_29 H | exact gt_30 H) | fail) only [s103_0, s103_1, s103_4, s103_5, s103_8, s103_11, s103_13, s103_14, s103_15, s103_18, s103_19, s103_20, s103_23, s103_25, s103_26, s103_27, s103_28, s103_31, s103_32, s103_35, s103_38, s103_41, s103_43, s103_44, s103_45, s103_76, s103_77, s103_80, s103_83, s103_86, s103_87, s103_88, s103_89, s103_90, s103_93, s103_96, s103_97, s103_98, s103_99, s103_100, s103_103, s103_106, s103_107, s103_108, s103_111, s103_112, s103_115, s103_116, s103_117, s103_118, s103_121, s103_124, s103_125, s103_126, s103_127, s103_128, s103_131, s103_134, s103_135, s103_136, aiP_5 H hp, ai_31 H, ai_37 H, ai_38 H, azP_4 H hp, grP_3 H hp, grP_4 H hp, gr_29_0 H, gr_29_7 H, gr_29_8 H, gr_2_3 H, gr_30_1 H, gtP H hp, gt_2 H, gt_29 H, gt_30 H, am103, isRf_ref, true_and, and_true, aPs_s, aPs_n, b01_0, b01_1, nI_clamp, ix_nI, inb_nI, lt_nI, eq_nI, nn_nI, eq0_nI, pk_mul, nI_add, lt_T, lt_F, if_true, if_false, true_and, and_true, neg1_nI, neg1_lt, neg1_neg, lt_neg1, eqN_F, eq_self,  r21, c44', Option.isSome_some, Option.isSome_none, Bool.not_false, Bool.not_true, Bool.true_and, Bool.false_and, Bool.and_true, Bool.and_false, Bool.or_true, Bool.or_false, Bool.true_or, Bool.false_or, Bool.true_eq_false, Bool.false_eq_true, if_true, if_false, Option.isSome_some, Option.isSome_none, Option.isNone_some, Option.isNone_none, zB_t, zB_f, nI1_0, nI0_0, l4, j0, l2, f3]
        | some o =>
          obtain ⟨O, L⟩ := t2 o ho
          have f3 : gI h 29 3 = nI 1 := by rw [f3, ho]; rfl
          have el := (L.2 b hb).1
          simp (disch := first | omega | assumption | exact gtP H hp | exact gt_2 H | exact gt_29 H | exact gt_30 H | (simp only [gT_pA, gT_pI, gT_pR]; first | assumption | exact gtP H hp | exact gt_2 H | exact gt_29 H | exact gt_30 H) | fail) only [s103_0, s103_1, s103_4, s103_5, s103_8, s103_11, s103_13, s103_14, s103_15, s103_18, s103_19, s103_20, s103_23, s103_25, s103_26, s103_27, s103_28, s103_31, s103_32, s103_35, s103_38, s103_41, s103_43, s103_44, s103_45, s103_76, s103_77, s103_80, s103_83, s103_86, s103_87, s103_88, s103_89, s103_90, s103_93, s103_96, s103_97, s103_98, s103_99, s103_100, s103_103, s103_106, s103_107, s103_108, s103_111, s103_112, s103_115, s103_116, s103_117, s103_118, s103_121, s103_124, s103_125, s103_126, s103_127, s103_128, s103_131, s103_134, s103_135, s103_136, aiP_5 H hp, ai_31 H, ai_37 H, ai_38 H, azP_4 H hp, grP_3 H hp, grP_4 H hp, gr_29_0 H, gr_29_7 H, gr_29_8 H, gr_2_3 H, gr_30_1 H, gtP H hp, gt_2 H, gt_29 H, gt_30 H, am103, isRf_ref, true_and, and_true, aPs_s, aPs_n, b01_0, b01_1, nI_clamp, ix_nI, inb_nI, lt_nI, eq_nI, nn_nI, eq0_nI, pk_mul, nI_add, lt_T, lt_F, if_true, if_false, true_and, and_true, neg1_nI, neg1_lt, neg1_neg, lt_neg1, eqN_F, eq_self,  r21, c44', Option.isSome_some, Bool.not_false, Bool.not_true, Bool.true_and, Bool.false_and, Bool.and_true, Bool.and_false, Bool.or_true, Bool.or_false, Bool.true_or, Bool.false_or, Bool.true_eq_false, Bool.false_eq_true, if_true, if_false, Option.isSome_some, Option.isSome_none, Option.isNone_some, Option.isNone_none, zB_t, zB_f, nI1_0, nI0_0, l4, j0, l2, f3, el, hb]
      · have l2 : nI 2 < nI 4 := by decide
        cases ho : oRD P tl with
        | none =>
          rw [ho] at f3
          simp (disch := first | omega | assumption | exact gtP H hp | exact gt_2 H | exact gt_29 H | exact gt_30 H | (simp only [gT_pA, gT_pI, gT_pR]; first | assumption | exact gtP H hp | exact gt_2 H | exact gt_29 H | exact gt_30 H) | fail) only [s103_0, s103_1, s103_4, s103_5, s103_8, s103_11, s103_13, s103_14, s103_15, s103_18, s103_19, s103_20, s103_23, s103_25, s103_26, s103_27, s103_28, s103_31, s103_32, s103_35, s103_38, s103_41, s103_43, s103_44, s103_45, s103_76, s103_77, s103_80, s103_83, s103_86, s103_87, s103_88, s103_89, s103_90, s103_93, s103_96, s103_97, s103_98, s103_99, s103_100, s103_103, s103_106, s103_107, s103_108, s103_111, s103_112, s103_115, s103_116, s103_117, s103_118, s103_121, s103_124, s103_125, s103_126, s103_127, s103_128, s103_131, s103_134, s103_135, s103_136, aiP_5 H hp, ai_31 H, ai_37 H, ai_38 H, azP_4 H hp, grP_3 H hp, grP_4 H hp, gr_29_0 H, gr_29_7 H, gr_29_8 H, gr_2_3 H, gr_30_1 H, gtP H hp, gt_2 H, gt_29 H, gt_30 H, am103, isRf_ref, true_and, and_true, aPs_s, aPs_n, b01_0, b01_1, nI_clamp, ix_nI, inb_nI, lt_nI, eq_nI, nn_nI, eq0_nI, pk_mul, nI_add, lt_T, lt_F, if_true, if_false, true_and, and_true, neg1_nI, neg1_lt, neg1_neg, lt_neg1, eqN_F, eq_self,  r21, c44', Option.isSome_some, Option.isSome_none, Bool.not_false, Bool.not_true, Bool.true_and, Bool.false_and, Bool.and_true, Bool.and_false, Bool.or_true, Bool.or_false, Bool.true_or, Bool.false_or, Bool.true_eq_false, Bool.false_eq_true, if_true, if_false, Option.isSome_some, Option.isSome_none, Option.isNone_some, Option.isNone_none, zB_t, zB_f, nI1_0, nI0_0, l4, j0, l2, f3]
        | some o =>
          obtain ⟨O, L⟩ := t2 o ho
          have f3 : gI h 29 3 = nI 1 := by rw [f3, ho]; rfl
          have el := (L.2 b hb).2
          simp (disch := first | omega | assumption | exact gtP H hp | exact gt_2 H | exact gt_29 H | exact gt_30 H | (simp only [gT_pA, gT_pI, gT_pR]; first | assumption | exact gtP H hp | exact gt_2 H | exact gt_29 H | exact gt_30 H) | fail) only [s103_0, s103_1, s103_4, s103_5, s103_8, s103_11, s103_13, s103_14, s103_15, s103_18, s103_19, s103_20, s103_23, s103_25, s103_26, s103_27, s103_28, s103_31, s103_32, s103_35, s103_38, s103_41, s103_43, s103_44, s103_45, s103_76, s103_77, s103_80, s103_83, s103_86, s103_87, s103_88, s103_89, s103_90, s103_93, s103_96, s103_97, s103_98, s103_99, s103_100, s103_103, s103_106, s103_107, s103_108, s103_111, s103_112, s103_115, s103_116, s103_117, s103_118, s103_121, s103_124, s103_125, s103_126, s103_127, s103_128, s103_131, s103_134, s103_135, s103_136, aiP_5 H hp, ai_31 H, ai_37 H, ai_38 H, azP_4 H hp, grP_3 H hp, grP_4 H hp, gr_29_0 H, gr_29_7 H, gr_29_8 H, gr_2_3 H, gr_30_1 H, gtP H hp, gt_2 H, gt_29 H, gt_30 H, am103, isRf_ref, true_and, and_true, aPs_s, aPs_n, b01_0, b01_1, nI_clamp, ix_nI, inb_nI, lt_nI, eq_nI, nn_nI, eq0_nI, pk_mul, nI_add, lt_T, lt_F, if_true, if_false, true_and, and_true, neg1_nI, neg1_lt, neg1_neg, lt_neg1, eqN_F, eq_self,  r21, c44', Option.isSome_some, Bool.not_false, Bool.not_true, Bool.true_and, Bool.false_and, Bool.and_true, Bool.and_false, Bool.or_true, Bool.or_false, Bool.true_or, Bool.false_or, Bool.true_eq_false, Bool.false_eq_true, if_true, if_false, Option.isSome_some, Option.isSome_none, Option.isNone_some, Option.isNone_none, zB_t, zB_f, nI1_0, nI0_0, l4, j0, l2, f3, el, hb]
    · rw [ew]
      simp (disch := first | omega | assumption | exact gtP H hp | exact gt_2 H | exact gt_29 H | exact gt_30 H | (simp only [gT_pA, gT_pI, gT_pR]; first | assumption | exact gtP H hp | exact gt_2 H | exact gt_29 H | exact gt_30 H) | fail) only [s103_0, s103_1, s103_4, s103_5, s103_8, s103_11, s103_13, s103_14, s103_15, s103_18, s103_19, s103_20, s103_23, s103_25, s103_26, s103_27, s103_28, s103_31, s103_32, s103_35, s103_38, s103_41, s103_43, s103_44, s103_45, s103_76, s103_77, s103_80, s103_83, s103_86, s103_87, s103_88, s103_89, s103_90, s103_93, s103_96, s103_97, s103_98, s103_99, s103_100, s103_103, s103_106, s103_107, s103_108, s103_111, s103_112, s103_115, s103_116, s103_117, s103_118, s103_121, s103_124, s103_125, s103_126, s103_127, s103_128, s103_131, s103_134, s103_135, s103_136, aiP_5 H hp, ai_31 H, ai_37 H, ai_38 H, azP_4 H hp, grP_3 H hp, grP_4 H hp, gr_29_0 H, gr_29_7 H, gr_29_8 H, gr_2_3 H, gr_30_1 H, gtP H hp, gt_2 H, gt_29 H, gt_30 H, am103, isRf_ref, true_and, and_true, aPs_s, aPs_n, b01_0, b01_1, nI_clamp, ix_nI, inb_nI, lt_nI, eq_nI, nn_nI, eq0_nI, pk_mul, nI_add, lt_T, lt_F, if_true, if_false, true_and, and_true, neg1_nI, neg1_lt, neg1_neg, lt_neg1, eqN_F, eq_self,  r21, c44', Option.isSome_some, Bool.not_false, Bool.not_true, Bool.true_and, Bool.false_and, Bool.and_true, Bool.and_false, Bool.or_true, Bool.or_false, Bool.true_or, Bool.false_or, Bool.true_eq_false, Bool.false_eq_true, if_true, if_false, Option.isSome_some, Option.isSome_none, Option.isNone_some, Option.isNone_none, zB_t, zB_f, nI1_0, nI0_0, e1]
    · have : nI 5 - nI 1 = nI 4 := by decide
      rw [this] at e4
      rw [ew]
      simp (disch := first | omega | assumption | exact gtP H hp | exact gt_2 H | exact gt_29 H | exact gt_30 H | (simp only [gT_pA, gT_pI, gT_pR]; first | assumption | exact gtP H hp | exact gt_2 H | exact gt_29 H | exact gt_30 H) | fail) only [s103_0, s103_1, s103_4, s103_5, s103_8, s103_11, s103_13, s103_14, s103_15, s103_18, s103_19, s103_20, s103_23, s103_25, s103_26, s103_27, s103_28, s103_31, s103_32, s103_35, s103_38, s103_41, s103_43, s103_44, s103_45, s103_76, s103_77, s103_80, s103_83, s103_86, s103_87, s103_88, s103_89, s103_90, s103_93, s103_96, s103_97, s103_98, s103_99, s103_100, s103_103, s103_106, s103_107, s103_108, s103_111, s103_112, s103_115, s103_116, s103_117, s103_118, s103_121, s103_124, s103_125, s103_126, s103_127, s103_128, s103_131, s103_134, s103_135, s103_136, aiP_5 H hp, ai_31 H, ai_37 H, ai_38 H, azP_4 H hp, grP_3 H hp, grP_4 H hp, gr_29_0 H, gr_29_7 H, gr_29_8 H, gr_2_3 H, gr_30_1 H, gtP H hp, gt_2 H, gt_29 H, gt_30 H, am103, isRf_ref, true_and, and_true, aPs_s, aPs_n, b01_0, b01_1, nI_clamp, ix_nI, inb_nI, lt_nI, eq_nI, nn_nI, eq0_nI, pk_mul, nI_add, lt_T, lt_F, if_true, if_false, true_and, and_true, neg1_nI, neg1_lt, neg1_neg, lt_neg1, eqN_F, eq_self,  r21, c44', Option.isSome_some, Bool.not_false, Bool.not_true, Bool.true_and, Bool.false_and, Bool.and_true, Bool.and_false, Bool.or_true, Bool.or_false, Bool.true_or, Bool.false_or, Bool.true_eq_false, Bool.false_eq_true, if_true, if_false, Option.isSome_some, Option.isSome_none, Option.isNone_some, Option.isNone_none, zB_t, zB_f, nI1_0, nI0_0, e1, e4]
  · rw [e] at c44' ⊢
    simp (disch := first | omega | assumption | exact gtP H hp | exact gt_2 H | exact gt_29 H | exact gt_30 H | (simp only [gT_pA, gT_pI, gT_pR]; first | assumption | exact gtP H hp | exact gt_2 H | exact gt_29 H | exact gt_30 H) | fail) only [s103_0, s103_1, s103_4, s103_5, s103_8, s103_11, s103_13, s103_14, s103_15, s103_18, s103_19, s103_20, s103_23, s103_25, s103_26, s103_27, s103_28, s103_31, s103_32, s103_35, s103_38, s103_41, s103_43, s103_44, s103_45, s103_76, s103_77, s103_80, s103_83, s103_86, s103_87, s103_88, s103_89, s103_90, s103_93, s103_96, s103_97, s103_98, s103_99, s103_100, s103_103, s103_106, s103_107, s103_108, s103_111, s103_112, s103_115, s103_116, s103_117, s103_118, s103_121, s103_124, s103_125, s103_126, s103_127, s103_128, s103_131, s103_134, s103_135, s103_136, aiP_5 H hp, ai_31 H, ai_37 H, ai_38 H, azP_4 H hp, grP_3 H hp, grP_4 H hp, gr_29_0 H, gr_29_7 H, gr_29_8 H, gr_2_3 H, gr_30_1 H, gtP H hp, gt_2 H, gt_29 H, gt_30 H, am103, isRf_ref, true_and, and_true, aPs_s, aPs_n, b01_0, b01_1, nI_clamp, ix_nI, inb_nI, lt_nI, eq_nI, nn_nI, eq0_nI, pk_mul, nI_add, lt_T, lt_F, if_true, if_false, true_and, and_true, neg1_nI, neg1_lt, neg1_neg, lt_neg1, eqN_F, eq_self,  r21, c44', Option.isSome_none, Bool.not_false, Bool.not_true, Bool.true_and, Bool.false_and, Bool.and_true, Bool.and_false, Bool.or_true, Bool.or_false, Bool.true_or, Bool.false_or, Bool.true_eq_false, Bool.false_eq_true, if_true, if_false, Option.isSome_some, Option.isSome_none, Option.isNone_some, Option.isNone_none, zB_t, zB_f, nI1_0, nI0_0]
set_option maxHeartbeats 4000000 in
theorem p_step (R : Rel hs h) {k w : Int32} : Pr d hs h 104 175 [.ref 2, .int k, .int w] [.ref 65, .int k, .int w] := by
  have R' := R
  obtain ⟨p, P, tl, ⟨-, -, H, HM, AB0⟩, ⟨hp, r21, r22, hP, W, Tv, T, h29, hw, TMh⟩, -⟩ := R
  have V := W.1
  have s10 := V.s.1
  refine Pr_t (h1 := h) (v := match plc k (nS P) with
    | none => -5
    | some s => aSt P s w) (fun Q => ?_) (fun Q2 hQ2 => t175 HM hP V (hQ2 h R'))
  have C := TMh.1.1
  have LDh := TMh.2.1.2.1
  have c45' : ∀ Q', aM (d + 19) 45 [.ref p, .int k] h Q' = Q' (some (.int (zB (plc k (nS P)).isSome))) h := fun Q' => c45 H hp (by omega) C.s
  rcases plc_or k (nS P) (by omega) with ⟨s, hs, rfl, e⟩ | e
  · rw [e] at c45' ⊢
    have ec := C.c V hs
    have hc := (V.c hs).2
    have e73 := (C.2.2.2.1 s hs).1
    have c52' : ∀ Q', aM (d + 19) 52 [.ref p, .int (nI s)] h Q' = Q' (some (.int (nI (zT P s)))) h := fun Q' => c52 H hp C V hs
    have ew := C.w V hs
    obtain ⟨e32, e33⟩ := LDh.2 s hs
    have s10' : s < 10 := by omega
    unfold aSt
    dsimp only
    rcases plc_cases w (6 + nRc P s) (by omega) with ⟨j, hj, rfl, e⟩ | ⟨e, e1, e2⟩ | ⟨e, e1, e2, e3, e4⟩
    · rw [e]
      have j0 : ¬ nI j < 0 := by rw [nn_nI (by omega)]; exact not_false
      by_cases h6 : j < 6
      · rcases (show j = 0 ∨ j = 1 ∨ j = 2 ∨ j = 3 ∨ j = 4 ∨ j = 5 by omega) with rfl | rfl | rfl | rfl | rfl | rfl
        · simp (disch := first | omega | assumption | exact gtP H hp | exact gt_2 H | exact gt_29 H | exact gt_30 H | (simp only [gT_pA, gT_pI, gT_pR]; first | assumption | exact gtP H hp | exact gt_2 H | exact gt_29 H | exact gt_30 H) | fail) only [s104_0, s104_1, s104_4, s104_5, s104_8, s104_11, s104_13, s104_14, s104_15, s104_18, s104_19, s104_21, s104_22, s104_25, s104_28, s104_29, s104_30, s104_31, s104_34, s104_36, s104_37, s104_38, s104_76, s104_77, s104_80, s104_83, s104_84, s104_85, s104_86, s104_87, s104_90, s104_91, s104_94, s104_95, s104_96, s104_99, s104_102, s104_103, s104_104, s104_105, s104_106, s104_109, s104_112, s104_113, s104_114, s104_115, s104_116, s104_119, s104_122, s104_125, s104_126, s104_127, s104_128, s104_129, s104_132, s104_135, s104_138, s104_139, s104_140, s104_143, s104_144, s104_147, s104_148, s104_149, s104_150, s104_153, s104_156, s104_157, s104_158, s104_159, s104_160, s104_161, s104_163, s104_164, s104_165, aiP_10 H hp, aiP_11 H hp, aiP_7 H hp, aiP_9 H hp, ai_32 H, az_33 H, grP_10 H hp, grP_11 H hp, grP_7 H hp, grP_9 H hp, gr_29_0 H, gr_2_3 H, gr_30_2 H, gr_30_3 H, gtP H hp, gt_2 H, gt_29 H, gt_30 H, am104, isRf_ref, true_and, and_true, aPs_s, aPs_n, b01_0, b01_1, nI_clamp, ix_nI, inb_nI, lt_nI, eq_nI, nn_nI, eq0_nI, pk_mul, nI_add, lt_T, lt_F, if_true, if_false, true_and, and_true, neg1_nI, neg1_lt, neg1_neg, lt_neg1, eqN_F, eq_self,  r21, c45', Option.isSome_some, Bool.not_false, Bool.not_true, Bool.true_and, Bool.false_and, Bool.and_true, Bool.and_false, Bool.or_true, Bool.or_false, Bool.true_or, Bool.false_or, Bool.true_eq_false, Bool.false_eq_true, if_true, if_false, Option.isSome_some, Option.isSome_none, Option.isNone_some, Option.isNone_none, zB_t, zB_f, nI1_0, nI0_0, j0, ec, hj, s10', e73]
        · simp (disch := first | omega | assumption | exact gtP H hp | exact gt_2 H | exact gt_29 H | exact gt_30 H | (simp only [gT_pA, gT_pI, gT_pR]; first | assumption | exact gtP H hp | exact gt_2 H | exact gt_29 H | exact gt_30 H) | fail) only [s104_0, s104_1, s104_4, s104_5, s104_8, s104_11, s104_13, s104_14, s104_15, s104_18, s104_19, s104_21, s104_22, s104_25, s104_28, s104_29, s104_30, s104_31, s104_34, s104_36, s104_37, s104_38, s104_76, s104_77, s104_80, s104_83, s104_84, s104_85, s104_86, s104_87, s104_90, s104_91, s104_94, s104_95, s104_96, s104_99, s104_102, s104_103, s104_104, s104_105, s104_106, s104_109, s104_112, s104_113, s104_114, s104_115, s104_116, s104_119, s104_122, s104_125, s104_126, s104_127, s104_128, s104_129, s104_132, s104_135, s104_138, s104_139, s104_140, s104_143, s104_144, s104_147, s104_148, s104_149, s104_150, s104_153, s104_156, s104_157, s104_158, s104_159, s104_160, s104_161, s104_163, s104_164, s104_165, aiP_10 H hp, aiP_11 H hp, aiP_7 H hp, aiP_9 H hp, ai_32 H, az_33 H, grP_10 H hp, grP_11 H hp, grP_7 H hp, grP_9 H hp, gr_29_0 H, gr_2_3 H, gr_30_2 H, gr_30_3 H, gtP H hp, gt_2 H, gt_29 H, gt_30 H, am104, isRf_ref, true_and, and_true, aPs_s, aPs_n, b01_0, b01_1, nI_clamp, ix_nI, inb_nI, lt_nI, eq_nI, nn_nI, eq0_nI, pk_mul, nI_add, lt_T, lt_F, if_true, if_false, true_and, and_true, neg1_nI, neg1_lt, neg1_neg, lt_neg1, eqN_F, eq_self,  r21, c45', Option.isSome_some, Bool.not_false, Bool.not_true, Bool.true_and, Bool.false_and, Bool.and_true, Bool.and_false, Bool.or_true, Bool.or_false, Bool.true_or, Bool.false_or, Bool.true_eq_false, Bool.false_eq_true, if_true, if_false, Option.isSome_some, Option.isSome_none, Option.isNone_some, Option.isNone_none, zB_t, zB_f, nI1_0, nI0_0, j0, ec, hj, s10', c52']
        · simp (disch := first | omega | assumption | exact gtP H hp | exact gt_2 H | exact gt_29 H | exact gt_30 H | (simp only [gT_pA, gT_pI, gT_pR]; first | assumption | exact gtP H hp | exact gt_2 H | exact gt_29 H | exact gt_30 H) | fail) only [s104_0, s104_1, s104_4, s104_5, s104_8, s104_11, s104_13, s104_14, s104_15, s104_18, s104_19, s104_21, s104_22, s104_25, s104_28, s104_29, s104_30, s104_31, s104_34, s104_36, s104_37, s104_38, s104_76, s104_77, s104_80, s104_83, s104_84, s104_85, s104_86, s104_87, s104_90, s104_91, s104_94, s104_95, s104_96, s104_99, s104_102, s104_103, s104_104, s104_105, s104_106, s104_109, s104_112, s104_113, s104_114, s104_115, s104_116, s104_119, s104_122, s104_125, s104_126, s104_127, s104_128, s104_129, s104_132, s104_135, s104_138, s104_139, s104_140, s104_143, s104_144, s104_147, s104_148, s104_149, s104_150, s104_153, s104_156, s104_157, s104_158, s104_159, s104_160, s104_161, s104_163, s104_164, s104_165, aiP_10 H hp, aiP_11 H hp, aiP_7 H hp, aiP_9 H hp, ai_32 H, az_33 H, grP_10 H hp, grP_11 H hp, grP_7 H hp, grP_9 H hp, gr_29_0 H, gr_2_3 H, gr_30_2 H, gr_30_3 H, gtP H hp, gt_2 H, gt_29 H, gt_30 H, am104, isRf_ref, true_and, and_true, aPs_s, aPs_n, b01_0, b01_1, nI_clamp, ix_nI, inb_nI, lt_nI, eq_nI, nn_nI, eq0_nI, pk_mul, nI_add, lt_T, lt_F, if_true, if_false, true_and, and_true, neg1_nI, neg1_lt, neg1_neg, lt_neg1, eqN_F, eq_self,  r21, c45', Option.isSome_some, Bool.not_false, Bool.not_true, Bool.true_and, Bool.false_and, Bool.and_true, Bool.and_false, Bool.or_true, Bool.or_false, Bool.true_or, Bool.false_or, Bool.true_eq_false, Bool.false_eq_true, if_true, if_false, Option.isSome_some, Option.isSome_none, Option.isNone_some, Option.isNone_none, zB_t, zB_f, nI1_0, nI0_0, j0, ec, hj, s10', ew]
        · simp (disch := first | omega | assumption | exact gtP H hp | exact gt_2 H | exact gt_29 H | exact gt_30 H | (simp only [gT_pA, gT_pI, gT_pR]; first | assumption | exact gtP H hp | exact gt_2 H | exact gt_29 H | exact gt_30 H) | fail) only [s104_0, s104_1, s104_4, s104_5, s104_8, s104_11, s104_13, s104_14, s104_15, s104_18, s104_19, s104_21, s104_22, s104_25, s104_28, s104_29, s104_30, s104_31, s104_34, s104_36, s104_37, s104_38, s104_76, s104_77, s104_80, s104_83, s104_84, s104_85, s104_86, s104_87, s104_90, s104_91, s104_94, s104_95, s104_96, s104_99, s104_102, s104_103, s104_104, s104_105, s104_106, s104_109, s104_112, s104_113, s104_114, s104_115, s104_116, s104_119, s104_122, s104_125, s104_126, s104_127, s104_128, s104_129, s104_132, s104_135, s104_138, s104_139, s104_140, s104_143, s104_144, s104_147, s104_148, s104_149, s104_150, s104_153, s104_156, s104_157, s104_158, s104_159, s104_160, s104_161, s104_163, s104_164, s104_165, aiP_10 H hp, aiP_11 H hp, aiP_7 H hp, aiP_9 H hp, ai_32 H, az_33 H, grP_10 H hp, grP_11 H hp, grP_7 H hp, grP_9 H hp, gr_29_0 H, gr_2_3 H, gr_30_2 H, gr_30_3 H, gtP H hp, gt_2 H, gt_29 H, gt_30 H, am104, isRf_ref, true_and, and_true, aPs_s, aPs_n, b01_0, b01_1, nI_clamp, ix_nI, inb_nI, lt_nI, eq_nI, nn_nI, eq0_nI, pk_mul, nI_add, lt_T, lt_F, if_true, if_false, true_and, and_true, neg1_nI, neg1_lt, neg1_neg, lt_neg1, eqN_F, eq_self,  r21, c45', Option.isSome_some, Bool.not_false, Bool.not_true, Bool.true_and, Bool.false_and, Bool.and_true, Bool.and_false, Bool.or_true, Bool.or_false, Bool.true_or, Bool.false_or, Bool.true_eq_false, Bool.false_eq_true, if_true, if_false, Option.isSome_some, Option.isSome_none, Option.isNone_some, Option.isNone_none, zB_t, zB_f, nI1_0, nI0_0, j0, ec, hj, s10']
        · simp (disch := first | omega | assumption | exact gtP H hp | exact gt_2 H | exact gt_29 H | exact gt_30 H | (simp only [gT_pA, gT_pI, gT_pR]; first | assumption | exact gtP H hp | exact gt_2 H | exact gt_29 H | exact gt_30 H) | fail) only [s104_0, s104_1, s104_4, s104_5, s104_8, s104_11, s104_13, s104_14, s104_15, s104_18, s104_19, s104_21, s104_22, s104_25, s104_28, s104_29, s104_30, s104_31, s104_34, s104_36, s104_37, s104_38, s104_76, s104_77, s104_80, s104_83, s104_84, s104_85, s104_86, s104_87, s104_90, s104_91, s104_94, s104_95, s104_96, s104_99, s104_102, s104_103, s104_104, s104_105, s104_106, s104_109, s104_112, s104_113, s104_114, s104_115, s104_116, s104_119, s104_122, s104_125, s104_126, s104_127, s104_128, s104_129, s104_132, s104_135, s104_138, s104_139, s104_140, s104_143, s104_144, s104_147, s104_148, s104_149, s104_150, s104_153, s104_156, s104_157, s104_158, s104_159, s104_160, s104_161, s104_163, s104_164, s104_165, aiP_10 H hp, aiP_11 H hp, aiP_7 H hp, aiP_9 H hp, ai_32 H, az_33 H, grP_10 H hp, grP_11 H hp, grP_7 H hp, grP_9 H hp, gr_29_0 H, gr_2_3 H, gr_30_2 H, gr_30_3 H, gtP H hp, gt_2 H, gt_29 H, gt_30 H, am104, isRf_ref, true_and, and_true, aPs_s, aPs_n, b01_0, b01_1, nI_clamp, ix_nI, inb_nI, lt_nI, eq_nI, nn_nI, eq0_nI, pk_mul, nI_add, lt_T, lt_F, if_true, if_false, true_and, and_true, neg1_nI, neg1_lt, neg1_neg, lt_neg1, eqN_F, eq_self,  r21, c45', Option.isSome_some, Bool.not_false, Bool.not_true, Bool.true_and, Bool.false_and, Bool.and_true, Bool.and_false, Bool.or_true, Bool.or_false, Bool.true_or, Bool.false_or, Bool.true_eq_false, Bool.false_eq_true, if_true, if_false, Option.isSome_some, Option.isSome_none, Option.isNone_some, Option.isNone_none, zB_t, zB_f, nI1_0, nI0_0, j0, ec, hj, s10', e32]
        · rcases Bool.eq_false_or_eq_true (kOver (P 73 s)) with g | g <;> simp (disch := first | omega | assumption | exact gtP H hp | exact gt_2 H | exact gt_29 H | exact gt_30 H | (simp only [gT_pA, gT_pI, gT_pR]; first | assumption | exact gtP H hp | exact gt_2 H | exact gt_29 H | exact gt_30 H) | fail) only [s104_0, s104_1, s104_4, s104_5, s104_8, s104_11, s104_13, s104_14, s104_15, s104_18, s104_19, s104_21, s104_22, s104_25, s104_28, s104_29, s104_30, s104_31, s104_34, s104_36, s104_37, s104_38, s104_76, s104_77, s104_80, s104_83, s104_84, s104_85, s104_86, s104_87, s104_90, s104_91, s104_94, s104_95, s104_96, s104_99, s104_102, s104_103, s104_104, s104_105, s104_106, s104_109, s104_112, s104_113, s104_114, s104_115, s104_116, s104_119, s104_122, s104_125, s104_126, s104_127, s104_128, s104_129, s104_132, s104_135, s104_138, s104_139, s104_140, s104_143, s104_144, s104_147, s104_148, s104_149, s104_150, s104_153, s104_156, s104_157, s104_158, s104_159, s104_160, s104_161, s104_163, s104_164, s104_165, aiP_10 H hp, aiP_11 H hp, aiP_7 H hp, aiP_9 H hp, ai_32 H, az_33 H, grP_10 H hp, grP_11 H hp, grP_7 H hp, grP_9 H hp, gr_29_0 H, gr_2_3 H, gr_30_2 H, gr_30_3 H, gtP H hp, gt_2 H, gt_29 H, gt_30 H, am104, isRf_ref, true_and, and_true, aPs_s, aPs_n, b01_0, b01_1, nI_clamp, ix_nI, inb_nI, lt_nI, eq_nI, nn_nI, eq0_nI, pk_mul, nI_add, lt_T, lt_F, if_true, if_false, true_and, and_true, neg1_nI, neg1_lt, neg1_neg, lt_neg1, eqN_F, eq_self,  r21, c45', Option.isSome_some, Bool.not_false, Bool.not_true, Bool.true_and, Bool.false_and, Bool.and_true, Bool.and_false, Bool.or_true, Bool.or_false, Bool.true_or, Bool.false_or, Bool.true_eq_false, Bool.false_eq_true, if_true, if_false, Option.isSome_some, Option.isSome_none, Option.isNone_some, Option.isNone_none, zB_t, zB_f, nI1_0, nI0_0, j0, ec, hj, s10', e33, g]
      · have er := C.r V hs (k := j - 6) (by omega)
        have hr : 4 * s + j - 6 = 4 * s + (j - 6) := by omega
        have e5 : nI (4 * s + j) - nI 6 = nI (4 * s + (j - 6)) := by rw [← hr]; exact pk_sub (by omega)
        have n0 : ¬ j = 0 := by omega
        have n1 : ¬ j = 1 := by omega
        have n2 : ¬ j = 2 := by omega
        have n3 : ¬ j = 3 := by omega
        have n4 : ¬ j = 4 := by omega
        have n5 : ¬ j = 5 := by omega
        simp (disch := first | omega | assumption | exact gtP H hp | exact gt_2 H | exact gt_29 H | exact gt_30 H | (simp only [gT_pA, gT_pI, gT_pR]; first | assumption | exact gtP H hp | exact gt_2 H | exact gt_29 H | exact gt_30 H) | fail) only [s104_0, s104_1, s104_4, s104_5, s104_8, s104_11, s104_13, s104_14, s104_15, s104_18, s104_19, s104_21, s104_22, s104_25, s104_28, s104_29, s104_30, s104_31, s104_34, s104_36, s104_37, s104_38, s104_76, s104_77, s104_80, s104_83, s104_84, s104_85, s104_86, s104_87, s104_90, s104_91, s104_94, s104_95, s104_96, s104_99, s104_102, s104_103, s104_104, s104_105, s104_106, s104_109, s104_112, s104_113, s104_114, s104_115, s104_116, s104_119, s104_122, s104_125, s104_126, s104_127, s104_128, s104_129, s104_132, s104_135, s104_138, s104_139, s104_140, s104_143, s104_144, s104_147, s104_148, s104_149, s104_150, s104_153, s104_156, s104_157, s104_158, s104_159, s104_160, s104_161, s104_163, s104_164, s104_165, aiP_10 H hp, aiP_11 H hp, aiP_7 H hp, aiP_9 H hp, ai_32 H, az_33 H, grP_10 H hp, grP_11 H hp, grP_7 H hp, grP_9 H hp, gr_29_0 H, gr_2_3 H, gr_30_2 H, gr_30_3 H, gtP H hp, gt_2 H, gt_29 H, gt_30 H, am104, isRf_ref, true_and, and_true, aPs_s, aPs_n, b01_0, b01_1, nI_clamp, ix_nI, inb_nI, lt_nI, eq_nI, nn_nI, eq0_nI, pk_mul, nI_add, lt_T, lt_F, if_true, if_false, true_and, and_true, neg1_nI, neg1_lt, neg1_neg, lt_neg1, eqN_F, eq_self,  r21, c45', Option.isSome_some, Bool.not_false, Bool.not_true, Bool.true_and, Bool.false_and, Bool.and_true, Bool.and_false, Bool.or_true, Bool.or_false, Bool.true_or, Bool.false_or, Bool.true_eq_false, Bool.false_eq_true, if_true, if_false, Option.isSome_some, Option.isSome_none, Option.isNone_some, Option.isNone_none, zB_t, zB_f, nI1_0, nI0_0, j0, ec, hj, s10', n0, n1, n2, n3, n4, n5, Nat.mul_comm s 4, e5, er]
    · rw [e]
      simp (disch := first | omega | assumption | exact gtP H hp | exact gt_2 H | exact gt_29 H | exact gt_30 H | (simp only [gT_pA, gT_pI, gT_pR]; first | assumption | exact gtP H hp | exact gt_2 H | exact gt_29 H | exact gt_30 H) | fail) only [s104_0, s104_1, s104_4, s104_5, s104_8, s104_11, s104_13, s104_14, s104_15, s104_18, s104_19, s104_21, s104_22, s104_25, s104_28, s104_29, s104_30, s104_31, s104_34, s104_36, s104_37, s104_38, s104_76, s104_77, s104_80, s104_83, s104_84, s104_85, s104_86, s104_87, s104_90, s104_91, s104_94, s104_95, s104_96, s104_99, s104_102, s104_103, s104_104, s104_105, s104_106, s104_109, s104_112, s104_113, s104_114, s104_115, s104_116, s104_119, s104_122, s104_125, s104_126, s104_127, s104_128, s104_129, s104_132, s104_135, s104_138, s104_139, s104_140, s104_143, s104_144, s104_147, s104_148, s104_149, s104_150, s104_153, s104_156, s104_157, s104_158, s104_159, s104_160, s104_161, s104_163, s104_164, s104_165, aiP_10 H hp, aiP_11 H hp, aiP_7 H hp, aiP_9 H hp, ai_32 H, az_33 H, grP_10 H hp, grP_11 H hp, grP_7 H hp, grP_9 H hp, gr_29_0 H, gr_2_3 H, gr_30_2 H, gr_30_3 H, gtP H hp, gt_2 H, gt_29 H, gt_30 H, am104, isRf_ref, true_and, and_true, aPs_s, aPs_n, b01_0, b01_1, nI_clamp, ix_nI, inb_nI, lt_nI, eq_nI, nn_nI, eq0_nI, pk_mul, nI_add, lt_T, lt_F, if_true, if_false, true_and, and_true, neg1_nI, neg1_lt, neg1_neg, lt_neg1, eqN_F, eq_self,  r21, c45', Option.isSome_some, Bool.not_false, Bool.not_true, Bool.true_and, Bool.false_and, Bool.and_true, Bool.and_false, Bool.or_true, Bool.or_false, Bool.true_or, Bool.false_or, Bool.true_eq_false, Bool.false_eq_true, if_true, if_false, Option.isSome_some, Option.isSome_none, Option.isNone_some, Option.isNone_none, zB_t, zB_f, nI1_0, nI0_0, e1]
    · rw [e]
      simp (disch := first | omega | assumption | exact gtP H hp | exact gt_2 H | exact gt_29 H | exact gt_30 H | (simp only [gT_pA, gT_pI, gT_pR]; first | assumption | exact gtP H hp | exact gt_2 H | exact gt_29 H | exact gt_30 H) | fail) only [s104_0, s104_1, s104_4, s104_5, s104_8, s104_11, s104_13, s104_14, s104_15, s104_18, s104_19, s104_21, s104_22, s104_25, s104_28, s104_29, s104_30, s104_31, s104_34, s104_36, s104_37, s104_38, s104_76, s104_77, s104_80, s104_83, s104_84, s104_85, s104_86, s104_87, s104_90, s104_91, s104_94, s104_95, s104_96, s104_99, s104_102, s104_103, s104_104, s104_105, s104_106, s104_109, s104_112, s104_113, s104_114, s104_115, s104_116, s104_119, s104_122, s104_125, s104_126, s104_127, s104_128, s104_129, s104_132, s104_135, s104_138, s104_139, s104_140, s104_143, s104_144, s104_147, s104_148, s104_149, s104_150, s104_153, s104_156, s104_157, s104_158, s104_159, s104_160, s104_161, s104_163, s104_164, s104_165, aiP_10 H hp, aiP_11 H hp, aiP_7 H hp, aiP_9 H hp, ai_32 H, az_33 H, grP_10 H hp, grP_11 H hp, grP_7 H hp, grP_9 H hp, gr_29_0 H, gr_2_3 H, gr_30_2 H, gr_30_3 H, gtP H hp, gt_2 H, gt_29 H, gt_30 H, am104, isRf_ref, true_and, and_true, aPs_s, aPs_n, b01_0, b01_1, nI_clamp, ix_nI, inb_nI, lt_nI, eq_nI, nn_nI, eq0_nI, pk_mul, nI_add, lt_T, lt_F, if_true, if_false, true_and, and_true, neg1_nI, neg1_lt, neg1_neg, lt_neg1, eqN_F, eq_self,  r21, c45', Option.isSome_some, Bool.not_false, Bool.not_true, Bool.true_and, Bool.false_and, Bool.and_true, Bool.and_false, Bool.or_true, Bool.or_false, Bool.true_or, Bool.false_or, Bool.true_eq_false, Bool.false_eq_true, if_true, if_false, Option.isSome_some, Option.isSome_none, Option.isNone_some, Option.isNone_none, zB_t, zB_f, nI1_0, nI0_0, e1, ec, s10', e3]
  · rw [e] at c45' ⊢
    simp (disch := first | omega | assumption | exact gtP H hp | exact gt_2 H | exact gt_29 H | exact gt_30 H | (simp only [gT_pA, gT_pI, gT_pR]; first | assumption | exact gtP H hp | exact gt_2 H | exact gt_29 H | exact gt_30 H) | fail) only [s104_0, s104_1, s104_4, s104_5, s104_8, s104_11, s104_13, s104_14, s104_15, s104_18, s104_19, s104_21, s104_22, s104_25, s104_28, s104_29, s104_30, s104_31, s104_34, s104_36, s104_37, s104_38, s104_76, s104_77, s104_80, s104_83, s104_84, s104_85, s104_86, s104_87, s104_90, s104_91, s104_94, s104_95, s104_96, s104_99, s104_102, s104_103, s104_104, s104_105, s104_106, s104_109, s104_112, s104_113, s104_114, s104_115, s104_116, s104_119, s104_122, s104_125, s104_126, s104_127, s104_128, s104_129, s104_132, s104_135, s104_138, s104_139, s104_140, s104_143, s104_144, s104_147, s104_148, s104_149, s104_150, s104_153, s104_156, s104_157, s104_158, s104_159, s104_160, s104_161, s104_163, s104_164, s104_165, aiP_10 H hp, aiP_11 H hp, aiP_7 H hp, aiP_9 H hp, ai_32 H, az_33 H, grP_10 H hp, grP_11 H hp, grP_7 H hp, grP_9 H hp, gr_29_0 H, gr_2_3 H, gr_30_2 H, gr_30_3 H, gtP H hp, gt_2 H, gt_29 H, gt_30 H, am104, isRf_ref, true_and, and_true, aPs_s, aPs_n, b01_0, b01_1, nI_clamp, ix_nI, inb_nI, lt_nI, eq_nI, nn_nI, eq0_nI, pk_mul, nI_add, lt_T, lt_F, if_true, if_false, true_and, and_true, neg1_nI, neg1_lt, neg1_neg, lt_neg1, eqN_F, eq_self,  r21, c45', Option.isSome_none, Bool.not_false, Bool.not_true, Bool.true_and, Bool.false_and, Bool.and_true, Bool.and_false, Bool.or_true, Bool.or_false, Bool.true_or, Bool.false_or, Bool.true_eq_false, Bool.false_eq_true, if_true, if_false, Option.isSome_some, Option.isSome_none, Option.isNone_some, Option.isNone_none, zB_t, zB_f, nI1_0, nI0_0]
end R2
