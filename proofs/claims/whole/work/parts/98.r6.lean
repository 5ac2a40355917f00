/-! BOTH SIDES, call by call: the FLOOR, the SHEETS -/
theorem Fr_fl5 {h : abH} {L : Nat → Option Nat} {hi q : Nat} {T : Nat → Nat → Prop} : Fr (fun o k => o = 51 ∨ (o = 50 ∧ k ≤ 1)) T h (flX 51 50 1 0 h L hi q) := Fr_trans (Fr_pA (fun _ => Or.inl rfl)) (Fr_trans (Fr_pI (Or.inr ⟨rfl, by decide⟩)) (Fr_pI (Or.inr ⟨rfl, by decide⟩)))
theorem Fr_fl9 {h : abH} {L : Nat → Option Nat} {hi q : Nat} {T : Nat → Nat → Prop} : Fr (fun o k => o = 91 ∨ (o = 65 ∧ (k = 32 ∨ k = 33))) T h (flX 91 65 33 32 h L hi q) := Fr_trans (Fr_pA (fun _ => Or.inl rfl)) (Fr_trans (Fr_pI (Or.inr ⟨rfl, Or.inr rfl⟩)) (Fr_pI (Or.inr ⟨rfl, Or.inl rfl⟩)))
section R6
variable {d : Nat} {h0 h : abH} {Q : Option Value → abH → Prop}
set_option maxHeartbeats 8000000 in
theorem c115_48 (H : KC h) {p : Nat} (hp : p = 5 ∨ p = 17) {P : Nat → Nat → Int32} (W : okW P) (T : TH h p P) (LDh : LD h P) {o : Nat → Nat} (O : ordV P o) (TLo : TL h P o) {L : Nat → Option Nat} {rl hi q n : Nat} (hq : q + n ≤ nS P) (K : flK P L hi q) (J : dj P L) (hr : gI h 50 2 = nI rl) (hrl : rl < 3) : ∀ {m i : Nat}, i + m = n → aW (d + 4) 115 48 [.ref 2, .int (nI n), .int (nI i)] [] (flX 51 50 1 0 h (goF P o rl L hi q i).1 (goF P o rl L hi q i).2 (q + i)) Q = Q (some (.int (nI (q + n)))) (flX 51 50 1 0 h (goF P o rl L hi q n).1 (goF P o rl L hi q n).2 (q + n)) := by
  have V := W.1
  have s10 := V.s.1
  have HMa : ∀ L hi q, KC (flX 51 50 1 0 h L hi q) := fun _ _ _ => H
  intro m
  induction m with
  | zero =>
    intro i hi2
    have hi2 : i = n := by omega
    subst hi2
    have ep : gI (flX 51 50 1 0 h (goF P o rl L hi q i).1 (goF P o rl L hi q i).2 (q + i)) 50 0 = nI (q + i) := flX_p
    rw [s115_48]
    simp (disch := first | omega | assumption | exact gt_2 (HMa _ _ _) | exact gt_29 (HMa _ _ _) | exact gt_50 (HMa _ _ _) | (simp only [gT_pA, gT_pI, gT_pR]; first | assumption | exact gt_2 (HMa _ _ _) | exact gt_29 (HMa _ _ _) | exact gt_50 (HMa _ _ _)) | fail) only [s115_0, s115_1, s115_2, s115_5, s115_6, s115_8, s115_11, s115_13, s115_14, s115_15, s115_18, s115_21, s115_24, s115_25, s115_28, s115_31, s115_32, s115_33, s115_34, s115_37, s115_40, s115_43, s115_45, s115_46, s115_47, s115_49, s115_50, s115_53, s115_54, s115_57, s115_58, s115_61, s115_64, s115_67, s115_70, s115_71, s115_74, s115_77, gr_2_3 (HMa _ _ _), gr_2_9 (HMa _ _ _), gt_2 (HMa _ _ _), gt_29 (HMa _ _ _), gt_50 (HMa _ _ _), am115, isRf_ref, true_and, and_true, aPs_s, aPs_n, b01_0, b01_1, nI_clamp, ix_nI, inb_nI, lt_nI, eq_nI, nn_nI, eq0_nI, pk_mul, nI_add, lt_T, lt_F, if_true, if_false, true_and, and_true, neg1_nI, neg1_lt, neg1_neg, lt_neg1, eqN_F, eq_self,  Nat.lt_irrefl, ep]
  | succ m ih =>
    intro i hi2
    have hin : i < n := by omega
    have K1 := goF_ok V (rl := rl) (n := i) (fun k hk => (O k hk).1) K (by omega)
    have J1 : dj P (goF P o rl L hi q i).1 := dj_go J
    have c3' : ∀ Q', aM (d + 3) 3 [.ref 50, .ref 29] (flX 51 50 1 0 h (goF P o rl L hi q i).1 (goF P o rl L hi q i).2 (q + i)) Q' = Q' none (flX 51 50 1 0 h (goF P o rl L hi q (i + 1)).1 (goF P o rl L hi q (i + 1)).2 (q + (i + 1))) := fun Q' => c3 H hp W T LDh O TLo (by omega) K1 J1 hr hrl
    have ih2 := ih (i := i + 1) (by omega)
    rw [s115_48]
    simp (disch := first | omega | assumption | exact gt_2 (HMa _ _ _) | exact gt_29 (HMa _ _ _) | exact gt_50 (HMa _ _ _) | (simp only [gT_pA, gT_pI, gT_pR]; first | assumption | exact gt_2 (HMa _ _ _) | exact gt_29 (HMa _ _ _) | exact gt_50 (HMa _ _ _)) | fail) only [s115_0, s115_1, s115_2, s115_5, s115_6, s115_8, s115_11, s115_13, s115_14, s115_15, s115_18, s115_21, s115_24, s115_25, s115_28, s115_31, s115_32, s115_33, s115_34, s115_37, s115_40, s115_43, s115_45, s115_46, s115_47, s115_49, s115_50, s115_53, s115_54, s115_57, s115_58, s115_61, s115_64, s115_67, s115_70, s115_71, s115_74, s115_77, gr_2_3 (HMa _ _ _), gr_2_9 (HMa _ _ _), gt_2 (HMa _ _ _), gt_29 (HMa _ _ _), gt_50 (HMa _ _ _), am115, isRf_ref, true_and, and_true, aPs_s, aPs_n, b01_0, b01_1, nI_clamp, ix_nI, inb_nI, lt_nI, eq_nI, nn_nI, eq0_nI, pk_mul, nI_add, lt_T, lt_F, if_true, if_false, true_and, and_true, neg1_nI, neg1_lt, neg1_neg, lt_neg1, eqN_F, eq_self,  hin, c3', ih2]
set_option maxHeartbeats 8000000 in
theorem p_go (R : Rel h0 h) {k : Int32} : Pr d h0 h 115 205 [.ref 2, .int k] [.ref 65, .int k] := by
  have R' := R
  obtain ⟨p, P, tl, r1, r2, r3, r4, r5, r6, r7, r8, r9, ra, rb⟩ := R
  have R0 := r1
  obtain ⟨-, -, H, HM, AB0⟩ := R0
  have R0 := r2
  obtain ⟨hp, r21, r22, hP, W, Tv, T, h29, hw, TMh⟩ := R0
  have V := W.1
  have s10 := V.s.1
  have C := TMh.1.1
  have f3 := TMh.2.2.1
  have t2 := TMh.2.2.2
  obtain ⟨L, hi, q, rl, a1, a2, a3, a4, a5, a6, a7, a8, a9, K, J⟩ := r7
  have r7 : R7 h P := ⟨L, hi, q, rl, a1, a2, a3, a4, a5, a6, a7, a8, a9, K, J⟩
  have e6 := C.s
  rcases r1_cases k 12 (by decide) with ⟨n, n1, n2, rfl, e⟩ | e
  · have l1 : ¬ nI n < nI 1 := by rw [lt_nI (by omega) (by omega)]; omega
    have l2 : ¬ nI 12 < nI n := by rw [lt_nI (by omega) (by omega)]; omega
    have bad : (oRD P tl = none ∨ nS P < q + n) → ∀ Q2 : Option Value → abH → Prop, (∀ h2, Rel h0 h2 → Q2 (some (.int (-3))) h2) → aM (d + 20) 205 [.ref 65, .int (nI n)] h Q2 := by
      intro hbad Q2 hQ2
      refine t205 HM hP V T (fun b hb => (a1 b hb).2) a3 a5 (by omega) K a7 a8 (fun q => by rw [e] at q; cases q) (fun _ _ _ _ _ h' F => hQ2 h' (Rel_Fm F R')) (fun n' o' _ _ hn ho hle => ?_)
      have : n' = n := by
        have := (nI_eq (show n < 2 ^ 31 by omega) (show n' < 2 ^ 31 by omega)).mp hn
        omega
      subst this
      rcases hbad with hbad | hbad
      · rw [hbad] at ho; cases ho
      · omega
    cases ho : oRD P tl with
    | none =>
      rw [ho] at f3
      refine Pr_t (h1 := h) (v := -3) (fun Q => ?_) (bad (Or.inl ho))
      simp (disch := first | omega | assumption | exact gtP H hp | exact gt_2 H | exact gt_29 H | exact gt_50 H | (simp only [gT_pA, gT_pI, gT_pR]; first | assumption | exact gtP H hp | exact gt_2 H | exact gt_29 H | exact gt_50 H) | fail) only [s115_0, s115_1, s115_2, s115_5, s115_6, s115_8, s115_11, s115_13, s115_14, s115_15, s115_18, s115_21, s115_24, s115_25, s115_28, s115_31, s115_32, s115_33, s115_34, s115_37, s115_40, s115_43, s115_45, s115_46, s115_47, s115_49, s115_50, s115_53, s115_54, s115_57, s115_58, s115_61, s115_64, s115_67, s115_70, s115_71, s115_74, s115_77, gr_2_3 H, gr_2_9 H, gtP H hp, gt_2 H, gt_29 H, gt_50 H, am115, isRf_ref, true_and, and_true, aPs_s, aPs_n, b01_0, b01_1, nI_clamp, ix_nI, inb_nI, lt_nI, eq_nI, nn_nI, eq0_nI, pk_mul, nI_add, lt_T, lt_F, if_true, if_false, true_and, and_true, neg1_nI, neg1_lt, neg1_neg, lt_neg1, eqN_F, eq_self,  l1, l2, f3, Option.isSome_none, Bool.not_false, Bool.not_true, Bool.true_and, Bool.false_and, Bool.and_true, Bool.and_false, Bool.or_true, Bool.or_false, Bool.true_or, Bool.false_or, Bool.true_eq_false, Bool.false_eq_true, if_true, if_false, Option.isSome_some, Option.isSome_none, Option.isNone_some, Option.isNone_none, zB_t, zB_f, nI1_0, nI0_0]
    | some o =>
      obtain ⟨O, TLo⟩ := t2 o ho
      have f3 : gI h 29 3 = nI 1 := by rw [f3, ho]; rfl
      by_cases h1 : nS P < q + n
      · refine Pr_t (h1 := h) (v := -3) (fun Q => ?_) (bad (Or.inr h1))
        simp (disch := first | omega | assumption | exact gtP H hp | exact gt_2 H | exact gt_29 H | exact gt_50 H | (simp only [gT_pA, gT_pI, gT_pR]; first | assumption | exact gtP H hp | exact gt_2 H | exact gt_29 H | exact gt_50 H) | fail) only [s115_0, s115_1, s115_2, s115_5, s115_6, s115_8, s115_11, s115_13, s115_14, s115_15, s115_18, s115_21, s115_24, s115_25, s115_28, s115_31, s115_32, s115_33, s115_34, s115_37, s115_40, s115_43, s115_45, s115_46, s115_47, s115_49, s115_50, s115_53, s115_54, s115_57, s115_58, s115_61, s115_64, s115_67, s115_70, s115_71, s115_74, s115_77, gr_2_3 H, gr_2_9 H, gtP H hp, gt_2 H, gt_29 H, gt_50 H, am115, isRf_ref, true_and, and_true, aPs_s, aPs_n, b01_0, b01_1, nI_clamp, ix_nI, inb_nI, lt_nI, eq_nI, nn_nI, eq0_nI, pk_mul, nI_add, lt_T, lt_F, if_true, if_false, true_and, and_true, neg1_nI, neg1_lt, neg1_neg, lt_neg1, eqN_F, eq_self,  l1, l2, f3, nI1_0, a4, r21, e6, h1]
      · have e0 : flX 51 50 1 0 h (goF P o rl L hi q 0).1 (goF P o rl L hi q 0).2 (q + 0) = h := flX_start (fun b hb => (a1 b hb).1) a2 a4
        have main : ∀ Q, aW (d + 20) 115 48 [.ref 2, .int (nI n), .int (nI 0)] [] h Q = Q (some (.int (nI (q + n)))) (flX 51 50 1 0 h (goF P o rl L hi q n).1 (goF P o rl L hi q n).2 (q + n)) := by
          intro Q
          have := c115_48 (d := d + 16) (Q := Q) H hp W TMh.1 TMh.2.1.2.1 O TLo (n := n) (by omega) K J a6 a8 (m := n) (i := 0) (by omega)
          rw [e0] at this
          exact this
        have K1 := goF_ok V (rl := rl) (n := n) (fun k hk => (O k hk).1) K (by omega)
        have J1 : dj P (goF P o rl L hi q n).1 := dj_go J
        have hgo : (goF P o rl L hi q n) = (goF P o rl L hi q n) := rfl
        generalize (goF P o rl L hi q n).1 = L1 at *
        generalize (goF P o rl L hi q n).2 = hi1 at *
        have F1 : Fr (fun o k => o = 51 ∨ (o = 50 ∧ k ≤ 1)) dT h (flX 51 50 1 0 h L1 hi1 (q + n)) := Fr_fl5
        generalize hX : flX 51 50 1 0 h L1 hi1 (q + n) = X at *
        have e65 : ∀ o k, 65 ≤ o → gI X o k = gI h o k := fun o k q => F1.2.2 o k (by omega)
        have M1 : KM X := Fr_KM (Fr_pT F1) pT_M HM
        have P1 : pv X = P := (pv_cg (fun o k q => e65 o k (by omega)) (e65 65 4 (by omega))).trans hP
        have T1 : toH X P tl := toH_cg (e65 65 26 (by omega)) (fun k => e65 88 k (by omega)) T
        exact (by omega)
  · exact (by omega)
end R6
