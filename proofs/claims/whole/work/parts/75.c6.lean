/-! THE CLASS: THE ORDER, lives, loads -/
theorem mOr_tl {P : Nat → Nat → Int32} {f : Nat → Nat} : ∀ {k : Nat}, ∃ o, mOr P (some f) k = some (o, obt f k) ∧ ∀ j, j < k → o j = f j := by
  intro k
  induction k with
  | zero => exact ⟨_, rfl, fun j hj => by omega⟩
  | succ k ih =>
    obtain ⟨o, h1, h2⟩ := ih
    rw [mOr, h1]
    refine ⟨_, rfl, fun j hj => ?_⟩
    by_cases e : j = k
    · simp only [e, if_true]
    · simp only [e, if_false]
      exact h2 j (by omega)
theorem mOr_gr {P : Nat → Nat → Int32} : ∀ {k : Nat} {o : Nat → Nat} {D : Nat}, mOr P none k = some (o, D) → D = obt o k ∧ ∀ j, j < k → o j < nS P ∧ mRdy P (o j) (obt o j) = true := by
  intro k
  induction k with
  | zero =>
    intro o D h
    cases h
    exact ⟨rfl, fun j hj => by omega⟩
  | succ k ih =>
    intro o D h
    rw [mOr] at h
    cases hq : mOr P none k with
    | none => rw [hq] at h; cases h
    | some x =>
      obtain ⟨o', D'⟩ := x
      rw [hq] at h
      obtain ⟨h1, h2⟩ := ih hq
      simp only at h
      cases hs : mNx P D' with
      | none => rw [hs] at h; cases h
      | some s =>
        rw [hs] at h
        simp only [Option.some.injEq, Prod.mk.injEq] at h
        obtain ⟨e1, e2⟩ := h
        have ej : ∀ j, j < k → o j = o' j := fun j hj => by
          rw [← e1]
          exact if_neg (by omega)
        have ek : o k = s := by rw [← e1]; exact if_pos rfl
        have eo : obt o k = obt o' k := obt_congr ej
        obtain ⟨_, s1, s2, _⟩ := fst1_lt (show fst1 _ _ 0 = some s from hs)
        refine ⟨by rw [obt, eo, ek, ← h1, e2], fun j hj => ?_⟩
        by_cases e : j = k
        · subst e
          rw [ek, eo, ← h1]
          exact ⟨by omega, s2⟩
        · have hj : j < k := by omega
          rw [ej j hj, obt_congr (fun i hi => ej i (by omega))]
          exact h2 j hj
/-- what is known of a told ORDER -/
def tlV (P : Nat → Nat → Int32) (tl : Option (Nat → Nat)) : Prop := ∀ f, tl = some f → ordV P f
theorem ordV_congr {P : Nat → Nat → Int32} {o f : Nat → Nat} (e : ∀ j, j < nS P → o j = f j) (O : ordV P f) : ordV P o := by
  intro k hk
  rw [e k hk, obt_congr (fun j hj => e j (by omega))]
  exact O k hk
theorem oRD_V {P : Nat → Nat → Int32} {tl : Option (Nat → Nat)} (T : tlV P tl) {o : Nat → Nat} (h : oRD P tl = some o) : ordV P o := by
  unfold oRD at h
  cases tl with
  | none =>
    cases hq : mOr P none (nS P) with
    | none => rw [hq] at h; cases h
    | some x =>
      rw [hq] at h
      obtain ⟨o', D⟩ := x
      cases h
      exact (mOr_gr hq).2
  | some f =>
    obtain ⟨o', h1, h2⟩ := mOr_tl (P := P) (f := f) (k := nS P)
    rw [h1] at h
    cases h
    exact ordV_congr h2 (T f rfl)
theorem oRD_tl {P : Nat → Nat → Int32} {f o : Nat → Nat} (h : oRD P (some f) = some o) : ∀ j, j < nS P → o j = f j := by
  unfold oRD at h
  obtain ⟨o', h1, h2⟩ := mOr_tl (P := P) (f := f) (k := nS P)
  rw [h1] at h
  cases h
  exact h2
theorem oRD_is {P : Nat → Nat → Int32} {f : Nat → Nat} : (oRD P (some f)).isSome = true := by
  unfold oRD
  obtain ⟨o', h1, h2⟩ := mOr_tl (P := P) (f := f) (k := nS P)
  rw [h1]
  rfl
/-- lives by the first k places, without what is WANTED -/
def clf (P : Nat → Nat → Int32) (o : Nat → Nat) (b : Nat) : Nat → Nat × Option Nat
  | 0 => (0, none)
  | k + 1 => (if nWt P (o k) = b then k else (clf P o b k).1, if (rdN P (o k) (nRc P (o k)) b || nWt P (o k) == b) = true then some k else (clf P o b k).2)
def clE (P : Nat → Nat → Int32) (o : Nat → Nat) (b : Nat) : Option Nat := if P 72 b = 0 then (clf P o b (nS P)).2 else (if nS P = 0 then none else some (nS P - 1))
theorem clf_lf {P : Nat → Nat → Int32} {o : Nat → Nat} {b : Nat} : ∀ {n : Nat}, (clf P o b n).1 = (lf P o b n).1 ∧ (P 72 b = 0 → (clf P o b n).2 = (lf P o b n).2) := by
  intro n
  induction n with
  | zero => exact ⟨rfl, fun _ => rfl⟩
  | succ n ih =>
    rw [clf, lf]
    refine ⟨by simp only; rw [ih.1], fun h => ?_⟩
    have e : mRdB P (o n) b = rdN P (o n) (nRc P (o n)) b := rfl
    simp only
    rw [ih.2 h, e, h]
    simp only [show ((0 : Int32) != 0) = false from rfl, Bool.false_and, Bool.or_false]
    cases rdN P (o n) (nRc P (o n)) b with
    | true => simp
    | false =>
      simp only [Bool.false_or, Bool.false_eq_true, if_false]
      by_cases h2 : nWt P (o n) = b
      · rw [if_pos h2, if_pos (beq_iff_eq.mpr h2)]
      · rw [if_neg h2, if_neg (fun q => h2 (beq_iff_eq.mp q))]
theorem cl_lf {P : Nat → Nat → Int32} (W : okW P) {o : Nat → Nat} (ho : ∀ k, k < nS P → o k < nS P) {b : Nat} (hb : b < 12) : (clf P o b (nS P)).1 = fr P o b ∧ clE P o b = ti P o b := by
  unfold fr ti lfE
  by_cases h0 : P 68 b = 0
  · rw [if_pos h0]
    have key : ∀ {n : Nat}, n ≤ nS P → clf P o b n = (0, none) := by
      intro n
      induction n with
      | zero => intro _; rfl
      | succ n ih =>
        intro hn
        have hs := ho n (by omega)
        have e1 : nWt P (o n) ≠ b := fun q => (W.2.2 _ hs).1 (q ▸ h0)
        have e2 : rdN P (o n) (nRc P (o n)) b = false := by
          cases hq : rdN P (o n) (nRc P (o n)) b with
          | false => rfl
          | true => exact absurd h0 (rd_there W hs hb hq)
        rw [clf, ih (by omega), e2, if_neg e1, if_neg]
        rw [Bool.false_or]
        exact fun q => e1 (beq_iff_eq.mp q)
    unfold clE
    rw [key (Nat.le_refl _), ((W.2.1 b hb).1 h0).2]
    exact ⟨rfl, rfl⟩
  · rw [if_neg h0]
    refine ⟨clf_lf.1, ?_⟩
    unfold clE
    by_cases h72 : P 72 b = 0
    · rw [if_pos h72]
      exact clf_lf.2 h72
    · rw [if_neg h72]
      by_cases hn : nS P = 0
      · rw [if_pos hn, hn]
        rfl
      · rw [if_neg hn]
        obtain ⟨n, e⟩ : ∃ n, nS P = n + 1 := ⟨nS P - 1, by omega⟩
        have e2 : (P 72 b != 0) = true := bne_iff_ne.mpr h72
        rw [e, lf]
        simp only [e2, e, beq_self_eq_true, Bool.and_self, Bool.or_true, if_true, Nat.add_sub_cancel]
theorem rdN_up {A : Nat → Nat → Int32} {s n b : Nat} : rdN A s (n + 1) b = (rdN A s n b || A 77 (4 * s + n) == nI b) := by
  unfold rdN
  cases h1 : (fst1 (fun k => A 77 (4 * s + k) == nI b) n 0).isSome with
  | true =>
    obtain ⟨i, _, h3, h4⟩ := fst1_some h1
    rw [fst1_is (i := i) (Nat.zero_le _) (by omega) h4]
    rfl
  | false =>
    rw [Bool.false_or]
    cases h2 : (A 77 (4 * s + n) == nI b) with
    | true => rw [fst1_is (i := n) (Nat.zero_le _) (by omega) h2]
    | false =>
      cases h3 : (fst1 (fun k => A 77 (4 * s + k) == nI b) (n + 1) 0).isSome with
      | false => rfl
      | true =>
        exfalso
        obtain ⟨i, _, h5, h6⟩ := fst1_some h3
        by_cases e : i = n
        · rw [e, h2] at h6; cases h6
        · rw [fst1_is (i := i) (Nat.zero_le _) (by omega) h6] at h1; cases h1
/-- a row of BUFFERS that is told by a function -/
theorem upd_b {F G : Nat → Int32} {g : Nat → Int32} {r : Nat} {v : Int32} (hr : r < 12) (e1 : G r = v) (e2 : ∀ b, b < 12 → b ≠ r → G b = F b) : upd (pre F 12 g) r v = pre G 12 g := by
  funext j
  by_cases e : j = r
  · subst e
    rw [upd_eq, pre_in hr, e1]
  · rw [upd_ne e]
    by_cases hj : j < 12
    · rw [pre_in hj, pre_in hj, e2 j hj e]
    · rw [pre_out hj, pre_out hj]
/-- what a heap shows of the program that is looked at -/
def TH (h : abH) (p : Nat) (P : Nat → Nat → Int32) : Prop := CP h p P ∧ gR h 29 1 = .ref p
section C6
variable {d p : Nat} {h : abH} {Q : Option Value → abH → Prop}
set_option maxHeartbeats 4000000 in
theorem c86 (H : KC h) (hp : p = 5 ∨ p = 17) {P : Nat → Nat → Int32} (V : okP P) (T : TH h p P) {D : Nat} (hD : D < 1024) : aM (d + 1) 86 [.ref 29, .int (nI D)] h Q = Q (some (.int (oI (mNx P D)))) h := by
  obtain ⟨C, r29⟩ := T
  have s10 := V.s.1
  have e4 := C.s
  unfold mNx
  have loop := for_dn (F := fun s => aW (d + 1) 86 2 [.ref 29, .int (nI D), .int (nI s)] [] h Q) (R := fun s => Q (some (.int (oI (fst1 (fun s => mRdy P s D) (nS P - s) s)))) h) (nS P) (by
    rw [s86_2, fst1_end]
    simp (disch := first | omega | assumption | exact gtP H hp | exact gt_29 H | (simp only [gT_pA, gT_pI, gT_pR]; first | assumption | exact gtP H hp | exact gt_29 H) | fail) only [s86_0, s86_1, s86_3, s86_4, s86_7, s86_10, s86_13, s86_14, s86_15, s86_16, s86_17, s86_18, s86_21, s86_22, s86_25, s86_26, s86_27, s86_30, s86_33, s86_34, s86_35, s86_38, s86_41, s86_42, gtP H hp, gt_29 H, am86, isRf_ref, true_and, and_true, aPs_s, aPs_n, b01_0, b01_1, nI_clamp, ix_nI, inb_nI, lt_nI, eq_nI, nn_nI, eq0_nI, pk_mul, nI_add, lt_T, lt_F, if_true, if_false, true_and, and_true, neg1_nI, neg1_lt, neg1_neg, lt_neg1, eqN_F, eq_self,  r29, e4, Nat.lt_irrefl, oI_n]) (fun s hs ih => by
    have c54' : ∀ Q', aM d 54 [.ref p, .int (nI s), .int (nI D)] h Q' = Q' (some (.int (zB (mRy P s D)))) h := fun Q' => c54 H hp C V hs hD
    rw [s86_2, fst1_step hs, mRdy_eq]
    rcases Bool.eq_false_or_eq_true (tb D s) with g1 | g1
    · simp (disch := first | omega | assumption | exact gtP H hp | exact gt_29 H | (simp only [gT_pA, gT_pI, gT_pR]; first | assumption | exact gtP H hp | exact gt_29 H) | fail) only [s86_0, s86_1, s86_3, s86_4, s86_7, s86_10, s86_13, s86_14, s86_15, s86_16, s86_17, s86_18, s86_21, s86_22, s86_25, s86_26, s86_27, s86_30, s86_33, s86_34, s86_35, s86_38, s86_41, s86_42, gtP H hp, gt_29 H, am86, isRf_ref, true_and, and_true, aPs_s, aPs_n, b01_0, b01_1, nI_clamp, ix_nI, inb_nI, lt_nI, eq_nI, nn_nI, eq0_nI, pk_mul, nI_add, lt_T, lt_F, if_true, if_false, true_and, and_true, neg1_nI, neg1_lt, neg1_neg, lt_neg1, eqN_F, eq_self,  r29, e4, hs, bit_0, g1, Bool.not_false, Bool.not_true, Bool.true_and, Bool.false_and, Bool.and_true, Bool.and_false, Bool.or_true, Bool.or_false, Bool.true_or, Bool.false_or, Bool.true_eq_false, Bool.false_eq_true, if_true, if_false, Option.isSome_some, Option.isSome_none, Option.isNone_some, Option.isNone_none, zB_t, zB_f, nI1_0, nI0_0, ih]
    · rcases Bool.eq_false_or_eq_true (mRy P s D) with g2 | g2 <;> simp (disch := first | omega | assumption | exact gtP H hp | exact gt_29 H | (simp only [gT_pA, gT_pI, gT_pR]; first | assumption | exact gtP H hp | exact gt_29 H) | fail) only [s86_0, s86_1, s86_3, s86_4, s86_7, s86_10, s86_13, s86_14, s86_15, s86_16, s86_17, s86_18, s86_21, s86_22, s86_25, s86_26, s86_27, s86_30, s86_33, s86_34, s86_35, s86_38, s86_41, s86_42, gtP H hp, gt_29 H, am86, isRf_ref, true_and, and_true, aPs_s, aPs_n, b01_0, b01_1, nI_clamp, ix_nI, inb_nI, lt_nI, eq_nI, nn_nI, eq0_nI, pk_mul, nI_add, lt_T, lt_F, if_true, if_false, true_and, and_true, neg1_nI, neg1_lt, neg1_neg, lt_neg1, eqN_F, eq_self,  r29, e4, hs, bit_0, g1, Bool.not_false, Bool.not_true, Bool.true_and, Bool.false_and, Bool.and_true, Bool.and_false, Bool.or_true, Bool.or_false, Bool.true_or, Bool.false_or, Bool.true_eq_false, Bool.false_eq_true, if_true, if_false, Option.isSome_some, Option.isSome_none, Option.isNone_some, Option.isNone_none, zB_t, zB_f, nI1_0, nI0_0, c54', g2, ih, oI_s])
  simp (disch := first | omega | assumption | exact gtP H hp | exact gt_29 H | (simp only [gT_pA, gT_pI, gT_pR]; first | assumption | exact gtP H hp | exact gt_29 H) | fail) only [s86_0, s86_1, s86_3, s86_4, s86_7, s86_10, s86_13, s86_14, s86_15, s86_16, s86_17, s86_18, s86_21, s86_22, s86_25, s86_26, s86_27, s86_30, s86_33, s86_34, s86_35, s86_38, s86_41, s86_42, gtP H hp, gt_29 H, am86, isRf_ref, true_and, and_true, aPs_s, aPs_n, b01_0, b01_1, nI_clamp, ix_nI, inb_nI, lt_nI, eq_nI, nn_nI, eq0_nI, pk_mul, nI_add, lt_T, lt_F, if_true, if_false, true_and, and_true, neg1_nI, neg1_lt, neg1_neg, lt_neg1, eqN_F, eq_self, ]
  exact loop 0 (Nat.zero_le _)
def rwX (h : abH) (o : Nat → Nat) (k : Nat) : abH := pA h 34 (pre (fun j => nI (o j)) k (gI h 34))
set_option maxHeartbeats 4000000 in
theorem t85 (H : KC h) (hp : p = 5 ∨ p = 17) {P : Nat → Nat → Int32} (V : okP P) (T : TH h p P) (hQ1 : ∀ A, mOr P none (nS P) = none → Q (some (.int (nI 0))) (pA h 34 A)) (hQ2 : ∀ o D, mOr P none (nS P) = some (o, D) → Q (some (.int (nI 1))) (rwX h o (nS P))) : aM (d + 2) 85 [.ref 29] h Q := by
  obtain ⟨C, r29⟩ := T
  have s10 := V.s.1
  have HMa : ∀ o k, KC (rwX h o k) := fun _ _ => H
  have loop : ∀ (n k : Nat) (o : Nat → Nat) (D : Nat) (x : Value), k + n = nS P → mOr P none k = some (o, D) → aW (d + 2) 85 4 [.ref 29, .int (nI D), .int (nI k), x] [] (rwX h o k) Q := by
    intro n
    induction n with
    | zero =>
      intro k o D x hk ho
      have hk : k = nS P := by omega
      subst hk
      have e4 : gI (rwX h o (nS P)) p 6 = nI (nS P) := by
        unfold rwX
        rw [gI_ne (by omega)]
        exact C.s
      have r3 : gR (rwX h o (nS P)) 29 1 = .ref p := r29
      rw [s85_4]
      simp (disch := first | omega | assumption | exact gtP (HMa _ _) hp | exact gt_29 (HMa _ _) | (simp only [gT_pA, gT_pI, gT_pR]; first | assumption | exact gtP (HMa _ _) hp | exact gt_29 (HMa _ _)) | fail) only [s85_0, s85_1, s85_2, s85_3, s85_5, s85_6, s85_9, s85_12, s85_15, s85_16, s85_17, s85_20, s85_21, s85_22, s85_25, s85_26, s85_27, s85_28, s85_31, s85_32, s85_33, s85_34, s85_35, s85_36, s85_37, s85_38, s85_39, s85_40, s85_43, s85_46, s85_47, aj_34 (HMa _ _), gr_29_4 (HMa _ _), gtP (HMa _ _) hp, gt_29 (HMa _ _), am85, isRf_ref, true_and, and_true, aPs_s, aPs_n, b01_0, b01_1, nI_clamp, ix_nI, inb_nI, lt_nI, eq_nI, nn_nI, eq0_nI, pk_mul, nI_add, lt_T, lt_F, if_true, if_false, true_and, and_true, neg1_nI, neg1_lt, neg1_neg, lt_neg1, eqN_F, eq_self,  r3, e4, Nat.lt_irrefl, b01_1]
      exact hQ2 o D ho
    | succ n ih =>
      intro k o D x hk ho
      have hk2 : k < nS P := by omega
      have e4 : gI (rwX h o k) p 6 = nI (nS P) := by
        unfold rwX
        rw [gI_ne (by omega)]
        exact C.s
      have r3 : gR (rwX h o k) 29 1 = .ref p := r29
      have hD := (mOr_ok s10 (fun f e => by cases e) (by omega) ho).1
      have Ck : CP (rwX h o k) p P := CPg_of (fun q j h1 h2 => by unfold rwX; rw [gI_ne (by omega)]) C
      have c86' : ∀ Q', aM (d + 1) 86 [.ref 29, .int (nI D)] (rwX h o k) Q' = Q' (some (.int (oI (mNx P D)))) (rwX h o k) := fun Q' => c86 (HMa o k) hp V ⟨Ck, r3⟩ hD
      rw [s85_4]
      cases hs : mNx P D with
      | none =>
        rw [hs] at c86'
        simp (disch := first | omega | assumption | exact gtP (HMa _ _) hp | exact gt_29 (HMa _ _) | (simp only [gT_pA, gT_pI, gT_pR]; first | assumption | exact gtP (HMa _ _) hp | exact gt_29 (HMa _ _)) | fail) only [s85_0, s85_1, s85_2, s85_3, s85_5, s85_6, s85_9, s85_12, s85_15, s85_16, s85_17, s85_20, s85_21, s85_22, s85_25, s85_26, s85_27, s85_28, s85_31, s85_32, s85_33, s85_34, s85_35, s85_36, s85_37, s85_38, s85_39, s85_40, s85_43, s85_46, s85_47, aj_34 (HMa _ _), gr_29_4 (HMa _ _), gtP (HMa _ _) hp, gt_29 (HMa _ _), am85, isRf_ref, true_and, and_true, aPs_s, aPs_n, b01_0, b01_1, nI_clamp, ix_nI, inb_nI, lt_nI, eq_nI, nn_nI, eq0_nI, pk_mul, nI_add, lt_T, lt_F, if_true, if_false, true_and, and_true, neg1_nI, neg1_lt, neg1_neg, lt_neg1, eqN_F, eq_self,  r3, e4, hk2, c86', oI_n, iflt_m1, b01_0]
        refine hQ1 _ ?_
        have h1 : mOr P none (k + 1) = none := by rw [mOr, ho]; simp only [hs]
        have := mOr_none h1 n
        rw [show k + 1 + n = nS P by omega] at this
        exact this
      | some s =>
        rw [hs] at c86'
        obtain ⟨_, s1, _, _⟩ := fst1_lt (show fst1 _ _ 0 = some s from hs)
        have s10' : s < 10 := by omega
        have h1 : mOr P none (k + 1) = some (fun j => if j = k then s else o j, D ||| 2 ^ s) := by rw [mOr, ho]; simp only [hs]
        have ew : pI (rwX h o k) 34 k (nI s) = rwX h (fun j => if j = k then s else o j) (k + 1) := by
          unfold rwX
          rw [pI_pA]
          congr 1
          rw [← pre_upd]
          rw [pre_ext (g := fun j => nI (o j)) (g' := fun j => nI (if j = k then s else o j)) (fun j hj => by rw [if_neg (by omega)])]
          simp only [if_true]
        simp (disch := first | omega | assumption | exact gtP (HMa _ _) hp | exact gt_29 (HMa _ _) | (simp only [gT_pA, gT_pI, gT_pR]; first | assumption | exact gtP (HMa _ _) hp | exact gt_29 (HMa _ _)) | fail) only [s85_0, s85_1, s85_2, s85_3, s85_5, s85_6, s85_9, s85_12, s85_15, s85_16, s85_17, s85_20, s85_21, s85_22, s85_25, s85_26, s85_27, s85_28, s85_31, s85_32, s85_33, s85_34, s85_35, s85_36, s85_37, s85_38, s85_39, s85_40, s85_43, s85_46, s85_47, aj_34 (HMa _ _), gr_29_4 (HMa _ _), gtP (HMa _ _) hp, gt_29 (HMa _ _), am85, isRf_ref, true_and, and_true, aPs_s, aPs_n, b01_0, b01_1, nI_clamp, ix_nI, inb_nI, lt_nI, eq_nI, nn_nI, eq0_nI, pk_mul, nI_add, lt_T, lt_F, if_true, if_false, true_and, and_true, neg1_nI, neg1_lt, neg1_neg, lt_neg1, eqN_F, eq_self,  r3, e4, hk2, c86', oI_s, nn_nI, ew, nI_bit]
        exact ih (k + 1) _ _ _ (by omega) h1
  have l0 := loop (nS P) 0 (fun _ => 0) 0 (.retAddr 0) (by omega) rfl
  have e0 : rwX h (fun _ => 0) 0 = h := by unfold rwX; rw [pre_0, pA_self]
  rw [e0] at l0
  simp (disch := first | omega | assumption | exact gtP H hp | exact gt_29 H | (simp only [gT_pA, gT_pI, gT_pR]; first | assumption | exact gtP H hp | exact gt_29 H) | fail) only [s85_0, s85_1, s85_2, s85_3, s85_5, s85_6, s85_9, s85_12, s85_15, s85_16, s85_17, s85_20, s85_21, s85_22, s85_25, s85_26, s85_27, s85_28, s85_31, s85_32, s85_33, s85_34, s85_35, s85_36, s85_37, s85_38, s85_39, s85_40, s85_43, s85_46, s85_47, aj_34 H, gr_29_4 H, gtP H hp, gt_29 H, am85, isRf_ref, true_and, and_true, aPs_s, aPs_n, b01_0, b01_1, nI_clamp, ix_nI, inb_nI, lt_nI, eq_nI, nn_nI, eq0_nI, pk_mul, nI_add, lt_T, lt_F, if_true, if_false, true_and, and_true, neg1_nI, neg1_lt, neg1_neg, lt_neg1, eqN_F, eq_self, ]
  exact l0
/-- the heap that shows lives -/
def lvX (h : abH) (F G : Nat → Int32) : abH := pA (pA h 37 (pre F 12 (gI h 37))) 38 (pre G 12 (gI h 38))
theorem lvX_7 {F G F' : Nat → Int32} {r : Nat} {v : Int32} (hr : r < 12) (e1 : F' r = v) (e2 : ∀ b, b < 12 → b ≠ r → F' b = F b) : pI (lvX h F G) 37 r v = lvX h F' G := by
  unfold lvX
  rw [pI_def, gI_ne (by decide), gI_eq, upd_b hr e1 e2, pA_sw (by decide), pA_pA]
theorem lvX_8 {F G G' : Nat → Int32} {r : Nat} {v : Int32} (hr : r < 12) (e1 : G' r = v) (e2 : ∀ b, b < 12 → b ≠ r → G' b = G b) : pI (lvX h F G) 38 r v = lvX h F G' := by
  unfold lvX
  rw [pI_def, gI_eq, upd_b hr e1 e2, pA_pA]
theorem lvX_ext {F G F' G' : Nat → Int32} (e1 : ∀ b, b < 12 → F b = F' b) (e2 : ∀ b, b < 12 → G b = G' b) : lvX h F G = lvX h F' G' := by
  unfold lvX
  rw [pre_ext e1, pre_ext e2]
def lvS : Nat → Nat → Prop := fun o _ => o = 37 ∨ o = 38
theorem Fr_lv {F G : Nat → Int32} : Fr lvS noT h (lvX h F G) := Fr_trans (Fr_pA (fun k => Or.inl rfl)) (Fr_pA (fun k => Or.inr rfl))
end C6
