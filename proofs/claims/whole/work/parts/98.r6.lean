/-! BOTH SIDES, call by call: the FLOOR, the SHEETS -/
theorem Fr_fl5 {h : abH} {L : Nat → Option Nat} {hi q : Nat} {T : Nat → Nat → Prop} : Fr (fun o k => o = 51 ∨ (o = 50 ∧ k ≤ 1)) T h (flX 51 50 1 0 h L hi q) := Fr_trans (Fr_pA (fun _ => Or.inl rfl)) (Fr_trans (Fr_pI (Or.inr ⟨rfl, by decide⟩)) (Fr_pI (Or.inr ⟨rfl, by decide⟩)))
theorem Fr_fl9 {h : abH} {L : Nat → Option Nat} {hi q : Nat} {T : Nat → Nat → Prop} : Fr (fun o k => o = 91 ∨ (o = 65 ∧ (k = 32 ∨ k = 33))) T h (flX 91 65 33 32 h L hi q) := Fr_trans (Fr_pA (fun _ => Or.inl rfl)) (Fr_trans (Fr_pI (Or.inr ⟨rfl, Or.inr rfl⟩)) (Fr_pI (Or.inr ⟨rfl, Or.inl rfl⟩)))
section R6
def S7 : Nat → Nat → Prop := fun o k => D7 o k ∨ scS o k
theorem Rel_7 {h0 h h' : abH} {p : Nat} {P : Nat → Nat → Int32} {tl : Option (Nat → Nat)} (F : Fr S7 dT h h') (r1 : R1 h0 h) (r2 : R2 h p P tl) (r3 : R3 h P) (r4 : R4 h) (r5 : R5 h) (r6 : R6 h) (r7 : R7 h' P) (r8 : R8 h P) (r9 : R9 h) (ra : RA h) (rb : RB h) : Rel h0 h' := ⟨p, P, tl, R1_fr (Fr_pT F) (by intro o k; simp only [D1, S7, D7, scS]; omega) r1, R2_fr F (by intro o k; simp only [D2, S7, D7, scS]; omega) r2, R3_fr F (by intro o k; simp only [D3, S7, D7, scS]; omega) r3, R4_fr F (by intro o k; simp only [D4, S7, D7, scS]; omega) r4, R5_fr F (by intro o k; simp only [D5, S7, D7, scS]; omega) r5, R6_fr F (by intro o k; simp only [D6, S7, D7, scS]; omega) r6, r7, R8_fr F (by intro o k; simp only [D8, S7, D7, scS]; omega) r8, R9_fr F (by intro o k; simp only [D9, S7, D7, scS]; omega) r9, RA_fr F (by intro o k; simp only [DA, S7, D7, scS]; omega) ra, RB_fr F (by intro o k; simp only [DB, S7, D7, scS]; omega) rb⟩
def S8 : Nat → Nat → Prop := fun o k => (o = 2 ∧ k = 11) ∨ (o = 65 ∧ 36 ≤ k ∧ k ≤ 39) ∨ (53 ≤ o ∧ o ≤ 55) ∨ o = 92 ∨ o = 93
variable {d : Nat} {h0 h : abH} {Q : Option Value → abH → Prop}
set_option maxHeartbeats 8000000 in
theorem c115_48 (H : KC h) {p : Nat} (hp : p = 5 ∨ p = 17) {P : Nat → Nat → Int32} (W : okW P) (T : TH h p P) (LDh : LD h P) {o : Nat → Nat} (O : ordV P o) (TLo : TL h P o) {L : Nat → Option Nat} {rl hi q n : Nat} (hq : q + n ≤ nS P) (K : flK P L hi q) (J : dj P L) (hr : gI h 50 2 = nI rl) (hrl : rl < 3) : ∀ {m i : Nat}, i + m = n → aW (d + 4) 115 48 [.ref 2, .int (nI n), .int (nI i)] [] (flX 51 50 1 0 h (goF P o rl L hi q i).1 (goF P o rl L hi q i).2 (q + i)) Q = Q (some (.int (nI (q + n)))) (flX 51 50 1 0 h (goF P o rl L hi q n).1 (goF P o rl L hi q n).2 (q + n)) := by
  have V := W.1
  have s10 := V.s.1
  have HMa : ∀ L hi q, KC (flX 51 50 1 0 h L hi q) := fun _ _ _ => H
  intro m
  induction m with
  | zero =>
    intro i hi2
    have hi2 : i = n := by omega
    subst hi2
    have ep : gI (flX 51 50 1 0 h (goF P o rl L hi q i).1 (goF P o rl L hi q i).2 (q + i)) 50 0 = nI (q + i) := flX_p
    rw [s115_48]
    simp (disch := first | omega | assumption | exact gt_2 (HMa _ _ _) | exact gt_29 (HMa _ _ _) | exact gt_50 (HMa _ _ _) | (simp only [gT_pA, gT_pI, gT_pR]; first | assumption | exact gt_2 (HMa _ _ _) | exact gt_29 (HMa _ _ _) | exact gt_50 (HMa _ _ _)) | fail) only [s115_0, s115_1, s115_2, s115_5, s115_6, s115_8, s115_11, s115_13, s115_14, s115_15, s115_18, s115_21, s115_24, s115_25, s115_28, s115_31, s115_32, s115_33, s115_34, s115_37, s115_40, s115_43, s115_45, s115_46, s115_47, s115_49, s115_50, s115_53, s115_54, s115_57, s115_58, s115_61, s115_64, s115_67, s115_70, s115_71, s115_74, s115_77, gr_2_3 (HMa _ _ _), gr_2_9 (HMa _ _ _), gt_2 (HMa _ _ _), gt_29 (HMa _ _ _), gt_50 (HMa _ _ _), am115, isRf_ref, true_and, and_true, aPs_s, aPs_n, b01_0, b01_1, nI_clamp, ix_nI, inb_nI, lt_nI, eq_nI, nn_nI, eq0_nI, pk_mul, nI_add, lt_T, lt_F, if_true, if_false, true_and, and_true, neg1_nI, neg1_lt, neg1_neg, lt_neg1, eqN_F, eq_self,  Nat.lt_irrefl, ep]
  | succ m ih =>
    intro i hi2
    have hin : i < n := by omega
    have K1 := goF_ok V (rl := rl) (n := i) (fun k hk => (O k hk).1) K (by omega)
    have J1 : dj P (goF P o rl L hi q i).1 := dj_go J
    have c3' : ∀ Q', aM (d + 3) 3 [.ref 50, .ref 29] (flX 51 50 1 0 h (goF P o rl L hi q i).1 (goF P o rl L hi q i).2 (q + i)) Q' = Q' none (flX 51 50 1 0 h (goF P o rl L hi q (i + 1)).1 (goF P o rl L hi q (i + 1)).2 (q + (i + 1))) := fun Q' => c3 H hp W T LDh O TLo (by omega) K1 J1 hr hrl
    have ih2 := ih (i := i + 1) (by omega)
    rw [s115_48]
    simp (disch := first | omega | assumption | exact gt_2 (HMa _ _ _) | exact gt_29 (HMa _ _ _) | exact gt_50 (HMa _ _ _) | (simp only [gT_pA, gT_pI, gT_pR]; first | assumption | exact gt_2 (HMa _ _ _) | exact gt_29 (HMa _ _ _) | exact gt_50 (HMa _ _ _)) | fail) only [s115_0, s115_1, s115_2, s115_5, s115_6, s115_8, s115_11, s115_13, s115_14, s115_15, s115_18, s115_21, s115_24, s115_25, s115_28, s115_31, s115_32, s115_33, s115_34, s115_37, s115_40, s115_43, s115_45, s115_46, s115_47, s115_49, s115_50, s115_53, s115_54, s115_57, s115_58, s115_61, s115_64, s115_67, s115_70, s115_71, s115_74, s115_77, gr_2_3 (HMa _ _ _), gr_2_9 (HMa _ _ _), gt_2 (HMa _ _ _), gt_29 (HMa _ _ _), gt_50 (HMa _ _ _), am115, isRf_ref, true_and, and_true, aPs_s, aPs_n, b01_0, b01_1, nI_clamp, ix_nI, inb_nI, lt_nI, eq_nI, nn_nI, eq0_nI, pk_mul, nI_add, lt_T, lt_F, if_true, if_false, true_and, and_true, neg1_nI, neg1_lt, neg1_neg, lt_neg1, eqN_F, eq_self,  hin, c3', ih2]
set_option maxHeartbeats 8000000 in
theorem p_go (R : Rel h0 h) {k : Int32} : Pr d h0 h 115 205 [.ref 2, .int k] [.ref 65, .int k] := by
  have R' := R
  obtain ⟨p, P, tl, r1, r2, r3, r4, r5, r6, r7, r8, r9, ra, rb⟩ := R
  have R0 := r1
  obtain ⟨-, -, H, HM, AB0⟩ := R0
  have R0 := r2
  obtain ⟨hp, r21, r22, hP, W, Tv, T, h29, hw, TMh⟩ := R0
  have V := W.1
  have s10 := V.s.1
  have C := TMh.1.1
  have f3 := TMh.2.2.1
  have t2 := TMh.2.2.2
  obtain ⟨L, hi, q, rl, a1, a2, a3, a4, a5, a6, a7, a8, a9, K, J⟩ := r7
  have r7 : R7 h P := ⟨L, hi, q, rl, a1, a2, a3, a4, a5, a6, a7, a8, a9, K, J⟩
  have e6 := C.s
  rcases r1_cases k 12 (by decide) with ⟨n, n1, n2, rfl, e⟩ | e
  · have l1 : ¬ nI n < nI 1 := by rw [lt_nI (by omega) (by omega)]; omega
    have l2 : ¬ nI 12 < nI n := by rw [lt_nI (by omega) (by omega)]; omega
    have bad : (oRD P tl = none ∨ nS P < q + n) → ∀ Q2 : Option Value → abH → Prop, (∀ h2, Rel h0 h2 → Q2 (some (.int (-3))) h2) → aM (d + 20) 205 [.ref 65, .int (nI n)] h Q2 := by
      intro hbad Q2 hQ2
      refine t205 HM hP V T (fun b hb => (a1 b hb).2) a3 a5 (by omega) K a7 a8 (fun q => by rw [e] at q; cases q) (fun _ _ _ _ _ h' F => hQ2 h' (Rel_Fm F R')) (fun n' o' _ _ hn ho hle => ?_)
      have : n' = n := by
        have := (nI_eq (show n < 2 ^ 31 by omega) (show n' < 2 ^ 31 by omega)).mp hn
        omega
      subst this
      rcases hbad with hbad | hbad
      · rw [hbad] at ho; cases ho
      · omega
    cases ho : oRD P tl with
    | none =>
      rw [ho] at f3
      refine Pr_t (h1 := h) (v := -3) (fun Q => ?_) (bad (Or.inl ho))
      simp (disch := first | omega | assumption | exact gtP H hp | exact gt_2 H | exact gt_29 H | exact gt_50 H | (simp only [gT_pA, gT_pI, gT_pR]; first | assumption | exact gtP H hp | exact gt_2 H | exact gt_29 H | exact gt_50 H) | fail) only [s115_0, s115_1, s115_2, s115_5, s115_6, s115_8, s115_11, s115_13, s115_14, s115_15, s115_18, s115_21, s115_24, s115_25, s115_28, s115_31, s115_32, s115_33, s115_34, s115_37, s115_40, s115_43, s115_45, s115_46, s115_47, s115_49, s115_50, s115_53, s115_54, s115_57, s115_58, s115_61, s115_64, s115_67, s115_70, s115_71, s115_74, s115_77, gr_2_3 H, gr_2_9 H, gtP H hp, gt_2 H, gt_29 H, gt_50 H, am115, isRf_ref, true_and, and_true, aPs_s, aPs_n, b01_0, b01_1, nI_clamp, ix_nI, inb_nI, lt_nI, eq_nI, nn_nI, eq0_nI, pk_mul, nI_add, lt_T, lt_F, if_true, if_false, true_and, and_true, neg1_nI, neg1_lt, neg1_neg, lt_neg1, eqN_F, eq_self,  l1, l2, f3, Option.isSome_none, Bool.not_false, Bool.not_true, Bool.true_and, Bool.false_and, Bool.and_true, Bool.and_false, Bool.or_true, Bool.or_false, Bool.true_or, Bool.false_or, Bool.true_eq_false, Bool.false_eq_true, if_true, if_false, Option.isSome_some, Option.isSome_none, Option.isNone_some, Option.isNone_none, zB_t, zB_f, nI1_0, nI0_0]
    | some o =>
      obtain ⟨O, TLo⟩ := t2 o ho
      have f3 : gI h 29 3 = nI 1 := by rw [f3, ho]; rfl
      by_cases h1 : nS P < q + n
      · refine Pr_t (h1 := h) (v := -3) (fun Q => ?_) (bad (Or.inr h1))
        simp (disch := first | omega | assumption | exact gtP H hp | exact gt_2 H | exact gt_29 H | exact gt_50 H | (simp only [gT_pA, gT_pI, gT_pR]; first | assumption | exact gtP H hp | exact gt_2 H | exact gt_29 H | exact gt_50 H) | fail) only [s115_0, s115_1, s115_2, s115_5, s115_6, s115_8, s115_11, s115_13, s115_14, s115_15, s115_18, s115_21, s115_24, s115_25, s115_28, s115_31, s115_32, s115_33, s115_34, s115_37, s115_40, s115_43, s115_45, s115_46, s115_47, s115_49, s115_50, s115_53, s115_54, s115_57, s115_58, s115_61, s115_64, s115_67, s115_70, s115_71, s115_74, s115_77, gr_2_3 H, gr_2_9 H, gtP H hp, gt_2 H, gt_29 H, gt_50 H, am115, isRf_ref, true_and, and_true, aPs_s, aPs_n, b01_0, b01_1, nI_clamp, ix_nI, inb_nI, lt_nI, eq_nI, nn_nI, eq0_nI, pk_mul, nI_add, lt_T, lt_F, if_true, if_false, true_and, and_true, neg1_nI, neg1_lt, neg1_neg, lt_neg1, eqN_F, eq_self,  l1, l2, f3, nI1_0, a4, r21, e6, h1]
      · have e0 : flX 51 50 1 0 h (goF P o rl L hi q 0).1 (goF P o rl L hi q 0).2 (q + 0) = h := flX_start (fun b hb => (a1 b hb).1) a2 a4
        have main : ∀ Q, aW (d + 20) 115 48 [.ref 2, .int (nI n), .int (nI 0)] [] h Q = Q (some (.int (nI (q + n)))) (flX 51 50 1 0 h (goF P o rl L hi q n).1 (goF P o rl L hi q n).2 (q + n)) := by
          intro Q
          have := c115_48 (d := d + 16) (Q := Q) H hp W TMh.1 TMh.2.1.2.1 O TLo (n := n) (by omega) K J a6 a8 (m := n) (i := 0) (by omega)
          rw [e0] at this
          exact this
        have K1 := goF_ok V (rl := rl) (n := n) (fun k hk => (O k hk).1) K (by omega)
        have J1 : dj P (goF P o rl L hi q n).1 := dj_go J
        have hF : ∀ h2, Fm (flX 51 50 1 0 h (goF P o rl L hi q n).1 (goF P o rl L hi q n).2 (q + n)) h2 → Fr S7 dT h (flX 91 65 33 32 h2 (goF P o rl L hi q n).1 (goF P o rl L hi q n).2 (q + n)) := fun h2 F2 => Fr_trans (Fr_trans (Fr_mono Fr_fl5 (by intro o k; simp only [S7, D7]; omega) (fun _ _ q => q)) (Fr_mono (Fm_Fr F2) (fun _ _ q => Or.inr q) (fun _ _ q => q))) (Fr_mono Fr_fl9 (by intro o k; simp only [S7, D7]; omega) (fun _ _ q => q))
        have F1 : Fr (fun o k => o = 51 ∨ (o = 50 ∧ k ≤ 1)) dT h (flX 51 50 1 0 h (goF P o rl L hi q n).1 (goF P o rl L hi q n).2 (q + n)) := Fr_fl5
        have x51 : ∀ b, b < 12 → gI (flX 51 50 1 0 h (goF P o rl L hi q n).1 (goF P o rl L hi q n).2 (q + n)) 51 b = oI ((goF P o rl L hi q n).1 b) := fun b hb => flX_L (by decide) hb
        have x1 : gI (flX 51 50 1 0 h (goF P o rl L hi q n).1 (goF P o rl L hi q n).2 (q + n)) 50 1 = nI (goF P o rl L hi q n).2 := flX_h (by decide)
        have x0 : gI (flX 51 50 1 0 h (goF P o rl L hi q n).1 (goF P o rl L hi q n).2 (q + n)) 50 0 = nI (q + n) := flX_p
        have x2 : gI (flX 51 50 1 0 h (goF P o rl L hi q n).1 (goF P o rl L hi q n).2 (q + n)) 50 2 = nI rl := (flX_k (by decide) (by decide) (by decide)).trans a6
        generalize hX : flX 51 50 1 0 h (goF P o rl L hi q n).1 (goF P o rl L hi q n).2 (q + n) = X at *
        have e65 : ∀ o k, 65 ≤ o → gI X o k = gI h o k := fun o k q => F1.2.2 o k (by omega)
        have M1 : KM X := Fr_KM (Fr_pT F1) pT_M HM
        have P1 : pv X = P := (pv_cg (fun o k q => e65 o k (by omega)) (e65 65 4 (by omega))).trans hP
        have T1 : toH X P tl := toH_cg (e65 65 26 (by omega)) (fun k => e65 88 k (by omega)) T
        refine Pr_t (h1 := X) (v := nI (q + n)) (fun Q => ?_) (fun Q2 hQ2 => ?_)
        · simp (disch := first | omega | assumption | exact gtP H hp | exact gt_2 H | exact gt_29 H | exact gt_50 H | (simp only [gT_pA, gT_pI, gT_pR]; first | assumption | exact gtP H hp | exact gt_2 H | exact gt_29 H | exact gt_50 H) | fail) only [s115_0, s115_1, s115_2, s115_5, s115_6, s115_8, s115_11, s115_13, s115_14, s115_15, s115_18, s115_21, s115_24, s115_25, s115_28, s115_31, s115_32, s115_33, s115_34, s115_37, s115_40, s115_43, s115_45, s115_46, s115_47, s115_49, s115_50, s115_53, s115_54, s115_57, s115_58, s115_61, s115_64, s115_67, s115_70, s115_71, s115_74, s115_77, gr_2_3 H, gr_2_9 H, gtP H hp, gt_2 H, gt_29 H, gt_50 H, am115, isRf_ref, true_and, and_true, aPs_s, aPs_n, b01_0, b01_1, nI_clamp, ix_nI, inb_nI, lt_nI, eq_nI, nn_nI, eq0_nI, pk_mul, nI_add, lt_T, lt_F, if_true, if_false, true_and, and_true, neg1_nI, neg1_lt, neg1_neg, lt_neg1, eqN_F, eq_self,  l1, l2, f3, nI1_0, a4, r21, e6, h1]
          exact main Q
        · refine t205 M1 P1 V T1 (fun b hb => (e65 91 b (by omega)).trans (a1 b hb).2) ((e65 65 33 (by omega)).trans a3) ((e65 65 32 (by omega)).trans a5) (by omega) K ((e65 65 34 (by omega)).trans a7) a8 (fun q => by rw [e] at q; cases q) (fun n' _ n2' hn hb h2 F2 => ?_) (fun n' o' _ n2' hn ho' hle h2 F2 => ?_)
          · have : n' = n := by
              have := (nI_eq (show n < 2 ^ 31 by omega) (show n' < 2 ^ 31 by omega)).mp hn
              omega
            subst this
            rcases hb with hb | hb
            · rw [ho] at hb; cases hb
            · omega
          · have : n' = n := by
              have := (nI_eq (show n < 2 ^ 31 by omega) (show n' < 2 ^ 31 by omega)).mp hn
              omega
            subst this
            rw [ho] at ho'
            cases ho'
            have F3 := hF h2 F2
            refine hQ2 _ (Rel_7 F3 r1 r2 r3 r4 r5 r6 ⟨(goF P o rl L hi q n').1, (goF P o rl L hi q n').2, q + n', rl, fun b hb => ⟨?_, flX_L (by decide) hb⟩, ?_, flX_h (by decide), ?_, flX_p, ?_, ?_, a8, hle, K1, J1⟩ r8 r9 ra rb)
            · rw [flX_o (by decide) (by decide), F2.2.2.1 51 (by decide) (by decide)]; exact x51 b hb
            · rw [flX_o (by decide) (by decide), F2.2.2.1 50 (by decide) (by decide)]; exact x1
            · rw [flX_o (by decide) (by decide), F2.2.2.1 50 (by decide) (by decide)]; exact x0
            · rw [flX_o (by decide) (by decide), F2.2.2.1 50 (by decide) (by decide)]; exact x2
            · rw [flX_k (by decide) (by decide) (by decide), F2.2.2.2 34 (by decide) (by decide) (by decide)]; exact (e65 65 34 (by omega)).trans a7
  · have e' := of_decide_eq_false e
    have no : ∀ n, 0 < n → n ≤ 12 → k = nI n → False := by
      intro n n1 n2 q
      subst q
      apply e'
      rw [lt_nI (by omega) (by omega), lt_nI (by omega) (by omega)]
      omega
    have bad : ∀ Q2 : Option Value → abH → Prop, (∀ h2, Rel h0 h2 → Q2 (some (.int (-2))) h2) → aM (d + 20) 205 [.ref 65, .int k] h Q2 := fun Q2 hQ2 => t205 HM hP V T (fun b hb => (a1 b hb).2) a3 a5 (by omega) K a7 a8 (fun _ => hQ2 h R') (fun n n1 n2 q => (no n n1 n2 q).elim) (fun n _ n1 n2 q => (no n n1 n2 q).elim)
    by_cases g1 : k < nI 1
    · refine Pr_t (h1 := h) (v := -2) (fun Q => ?_) bad
      simp (disch := first | omega | assumption | exact gtP H hp | exact gt_2 H | exact gt_29 H | exact gt_50 H | (simp only [gT_pA, gT_pI, gT_pR]; first | assumption | exact gtP H hp | exact gt_2 H | exact gt_29 H | exact gt_50 H) | fail) only [s115_0, s115_1, s115_2, s115_5, s115_6, s115_8, s115_11, s115_13, s115_14, s115_15, s115_18, s115_21, s115_24, s115_25, s115_28, s115_31, s115_32, s115_33, s115_34, s115_37, s115_40, s115_43, s115_45, s115_46, s115_47, s115_49, s115_50, s115_53, s115_54, s115_57, s115_58, s115_61, s115_64, s115_67, s115_70, s115_71, s115_74, s115_77, gr_2_3 H, gr_2_9 H, gtP H hp, gt_2 H, gt_29 H, gt_50 H, am115, isRf_ref, true_and, and_true, aPs_s, aPs_n, b01_0, b01_1, nI_clamp, ix_nI, inb_nI, lt_nI, eq_nI, nn_nI, eq0_nI, pk_mul, nI_add, lt_T, lt_F, if_true, if_false, true_and, and_true, neg1_nI, neg1_lt, neg1_neg, lt_neg1, eqN_F, eq_self,  g1]
    · have g2 : nI 12 < k := by
        by_cases g : nI 12 < k
        · exact g
        · exact (e' ⟨g1, g⟩).elim
      refine Pr_t (h1 := h) (v := -2) (fun Q => ?_) bad
      simp (disch := first | omega | assumption | exact gtP H hp | exact gt_2 H | exact gt_29 H | exact gt_50 H | (simp only [gT_pA, gT_pI, gT_pR]; first | assumption | exact gtP H hp | exact gt_2 H | exact gt_29 H | exact gt_50 H) | fail) only [s115_0, s115_1, s115_2, s115_5, s115_6, s115_8, s115_11, s115_13, s115_14, s115_15, s115_18, s115_21, s115_24, s115_25, s115_28, s115_31, s115_32, s115_33, s115_34, s115_37, s115_40, s115_43, s115_45, s115_46, s115_47, s115_49, s115_50, s115_53, s115_54, s115_57, s115_58, s115_61, s115_64, s115_67, s115_70, s115_71, s115_74, s115_77, gr_2_3 H, gr_2_9 H, gtP H hp, gt_2 H, gt_29 H, gt_50 H, am115, isRf_ref, true_and, and_true, aPs_s, aPs_n, b01_0, b01_1, nI_clamp, ix_nI, inb_nI, lt_nI, eq_nI, nn_nI, eq0_nI, pk_mul, nI_add, lt_T, lt_F, if_true, if_false, true_and, and_true, neg1_nI, neg1_lt, neg1_neg, lt_neg1, eqN_F, eq_self,  g1, g2]
theorem lwB_no {L : Nat → Option Nat} {D : Nat} (hL : ∀ b, b < 12 → L b = none) : ∀ {n : Nat}, n ≤ 12 → lwB L D n = none := by
  intro n
  induction n with
  | zero => intro _; rfl
  | succ n ih =>
    intro hn
    rw [lwB, hL n (by omega)]
    exact ih (by omega)
theorem cpF_none {P : Nat → Nat → Int32} {L : Nat → Option Nat} (hL : ∀ b, b < 12 → L b = none) : ∀ {n : Nat}, (cpF P L n).1 = L := by
  intro n
  induction n with
  | zero => rfl
  | succ n ih =>
    rw [cpF]
    unfold cpS
    rw [ih, lwB_no hL (Nat.le_refl 12)]
    exact ih
set_option maxHeartbeats 8000000 in
theorem p_compact (R : Rel h0 h) : Pr d h0 h 116 206 [.ref 2] [.ref 65] := by
  have R' := R
  obtain ⟨p, P, tl, r1, r2, r3, r4, r5, r6, r7, r8, r9, ra, rb⟩ := R
  have R0 := r1
  obtain ⟨-, -, H, HM, AB0⟩ := R0
  have R0 := r2
  obtain ⟨hp, r21, r22, hP, W, Tv, T, h29, hw, TMh⟩ := R0
  have V := W.1
  have s10 := V.s.1
  have C := TMh.1.1
  have f3 := TMh.2.2.1
  have t2 := TMh.2.2.2
  obtain ⟨L, hi, q, rl, a1, a2, a3, a4, a5, a6, a7, a8, a9, K, J⟩ := r7
  have B2 : 39204 * (12 + q) < 2 ^ 30 := by omega
  have c10' : ∀ Q', aM (d + 19) 10 [.ref 50, .ref 31] h Q' = Q' (some (.int (nI (cpF P L 12).2.2.2))) (laX 51 h (cpF P L 12).1) := fun Q' => c10 H V TMh.2.1.2.1.1 (fun b hb => (a1 b hb).1) K.2.1 B2 (by omega)
  have M1 : KM (laX 51 h (cpF P L 12).1) := HM
  have P1 : pv (laX 51 h (cpF P L 12).1) = P := by unfold laX; rw [pv_pA (by omega)]; exact hP
  have F1 : Fr (fun o _ => o = 51 ∨ o = 91) dT h (laX 51 h (cpF P L 12).1) := Fr_pA (fun _ => Or.inl rfl)
  have F2 : Fr (fun o _ => o = 51 ∨ o = 91) dT (laX 51 h (cpF P L 12).1) (laX 91 (laX 51 h (cpF P L 12).1) (cpF P L 12).1) := Fr_pA (fun _ => Or.inr rfl)
  have F := Fr_trans F1 F2
  have e91 : ∀ b, b < 12 → gI (laX 51 h (cpF P L 12).1) 91 b = oI (L b) := fun b hb => by
    have : gI (laX 51 h (cpF P L 12).1) 91 = gI h 91 := by unfold laX; rw [gI_ne (by decide)]
    rw [this]; exact (a1 b hb).2
  refine Pr_e (h1 := laX 51 h (cpF P L 12).1) (h2 := laX 91 (laX 51 h (cpF P L 12).1) (cpF P L 12).1) (v := nI (cpF P L 12).2.2.2) (fun Q => ?_) (fun Q => c206 M1 P1 V e91 K.2.1 B2 (by omega)) ?_
  · simp (disch := first | omega | assumption | exact gt_2 H | exact gt_29 H | exact gt_30 H | exact gt_50 H | (simp only [gT_pA, gT_pI, gT_pR]; first | assumption | exact gt_2 H | exact gt_29 H | exact gt_30 H | exact gt_50 H) | fail) only [s116_0, s116_1, s116_4, s116_5, s116_8, s116_11, s116_14, s116_17, gr_29_0 H, gr_2_3 H, gr_2_9 H, gr_30_1 H, gt_2 H, gt_29 H, gt_30 H, gt_50 H, am116, isRf_ref, true_and, and_true, aPs_s, aPs_n, b01_0, b01_1, nI_clamp, ix_nI, inb_nI, lt_nI, eq_nI, nn_nI, eq0_nI, pk_mul, nI_add, lt_T, lt_F, if_true, if_false, true_and, and_true, neg1_nI, neg1_lt, neg1_neg, lt_neg1, eqN_F, eq_self,  c10']
  · have OK := cpF_ok V K.2.1 (by omega) (Nat.le_refl 12)
    refine Rel_7 (Fr_mono F (by intro o k; simp only [S7, D7]; omega) (fun _ _ q => q)) r1 r2 r3 r4 r5 r6 ⟨(cpF P L 12).1, hi, q, rl, fun b hb => ⟨?_, laX_L hb⟩, ?_, ?_, ?_, ?_, ?_, ?_, a8, a9, ⟨fun q0 b hb => ?_, OK.1, K.2.2⟩, dj_cp⟩ r8 r9 ra rb
    · unfold laX; rw [gI_ne (by decide), gI_eq, pre_in hb]
    · rw [F.2.2 50 1 (by omega)]; exact a2
    · rw [F.2.2 65 33 (by omega)]; exact a3
    · rw [F.2.2 50 0 (by omega)]; exact a4
    · rw [F.2.2 65 32 (by omega)]; exact a5
    · rw [F.2.2 50 2 (by omega)]; exact a6
    · rw [F.2.2 65 34 (by omega)]; exact a7
    · rw [cpF_none (K.1 q0)]; exact K.1 q0 b hb
set_option maxHeartbeats 8000000 in
theorem p_again (R : Rel h0 h) : Pr d h0 h 119 209 [.ref 2] [.ref 65] := by
  have R' := R
  obtain ⟨p, P, tl, r1, r2, r3, r4, r5, r6, r7, r8, r9, ra, rb⟩ := R
  have R0 := r1
  obtain ⟨-, -, H, HM, AB0⟩ := R0
  have R0 := r2
  obtain ⟨hp, r21, r22, hP, W, Tv, T, h29, hw, TMh⟩ := R0
  have V := W.1
  have s10 := V.s.1
  have C := TMh.1.1
  have f3 := TMh.2.2.1
  have t2 := TMh.2.2.2
  obtain ⟨L, hi, q, rl, a1, a2, a3, a4, a5, a6, a7, a8, a9, K, J⟩ := r7
  have c1' : ∀ Q', aM (d + 19) 1 [.ref 50] h Q' = Q' none (emH h) := fun Q' => c1 H
  have M1 : KM (emH h) := HM
  have F1 : Fr S7 dT h (emH h) := by
    have e : emH h = pA (pI (pI h 50 0 (nI 0)) 50 1 (nI 0)) 51 (pre (fun _ => -1) 12 (gI h 51)) := by
      unfold emH emF
      simp only [pI_def, pA_pA, gI_eq]
    rw [e]
    exact Fr_trans (Fr_trans (Fr_pI (by unfold S7 D7; omega)) (Fr_pI (by unfold S7 D7; omega))) (Fr_pA (fun k => by unfold S7 D7; omega))
  have F2 : Fr S7 dT (emH h) (agH (emH h)) := by
    have e : agH (emH h) = pA (pI (pI (emH h) 65 32 (nI 0)) 65 33 (nI 0)) 91 (pre (fun _ => -1) 12 (gI (emH h) 91)) := by
      unfold agH agF
      simp only [pI_def, pA_pA, gI_eq]
    rw [e]
    exact Fr_trans (Fr_trans (Fr_pI (by unfold S7 D7; omega)) (Fr_pI (by unfold S7 D7; omega))) (Fr_pA (fun k => by unfold S7 D7; omega))
  have e32 : gI (emH h) 65 32 = nI q := a5
  refine Pr_e (h1 := emH h) (h2 := agH (emH h)) (v := nI q) (fun Q => ?_) (fun Q => by rw [c209 M1, e32]) ?_
  · simp (disch := first | omega | assumption | exact gt_2 H | exact gt_50 H | (simp only [gT_pA, gT_pI, gT_pR]; first | assumption | exact gt_2 H | exact gt_50 H) | fail) only [s119_0, s119_1, s119_4, s119_7, s119_8, s119_9, s119_12, s119_15, s119_16, gr_2_9 H, gt_2 H, gt_50 H, am119, isRf_ref, true_and, and_true, aPs_s, aPs_n, b01_0, b01_1, nI_clamp, ix_nI, inb_nI, lt_nI, eq_nI, nn_nI, eq0_nI, pk_mul, nI_add, lt_T, lt_F, if_true, if_false, true_and, and_true, neg1_nI, neg1_lt, neg1_neg, lt_neg1, eqN_F, eq_self,  c1', a4]
  · refine Rel_7 (Fr_trans F1 F2) r1 r2 r3 r4 r5 r6 ⟨fun _ => none, 0, 0, rl, fun b hb => ⟨?_, ?_⟩, rfl, rfl, rfl, rfl, a6, a7, a8, Nat.zero_le _, ⟨fun _ _ _ => rfl, fun b hb x hx => (by cases hx), Nat.zero_le _⟩, dj_none (fun _ _ => rfl)⟩ r8 r9 ra rb
    · have : gI (agH (emH h)) 51 b = pre (fun _ => -1) 12 (gI h 51) b := rfl
      rw [this, pre_in hb]; rfl
    · have : gI (agH (emH h)) 91 b = pre (fun _ => -1) 12 (gI (emH h) 91) b := rfl
      rw [this, pre_in hb]; rfl
theorem wP_self {P : Nat → Nat → Int32} : wP P (P 67) = P := by
  funext o
  unfold wP
  by_cases e : o = 67
  · subst e; rw [if_pos rfl]
  · rw [if_neg e]
def imX (h : abH) : abH := pI (tfH h 53 54 55 50 51 52) 2 11 (nI 1)
set_option maxHeartbeats 8000000 in
theorem p_image (R : Rel h0 h) : Pr d h0 h 120 210 [.ref 2] [.ref 65] := by
  have R' := R
  obtain ⟨p, P, tl, r1, r2, r3, r4, r5, r6, r7, r8, r9, ra, rb⟩ := R
  have R0 := r1
  obtain ⟨-, -, H, HM, AB0⟩ := R0
  have R0 := r2
  obtain ⟨hp, r21, r22, hP, W, Tv, T, h29, hw, TMh⟩ := R0
  have V := W.1
  have s10 := V.s.1
  have C := TMh.1.1
  have f3 := TMh.2.2.1
  have t2 := TMh.2.2.2
  obtain ⟨L, hi, q, rl, a1, a2, a3, a4, a5, a6, a7, a8, a9, K, J⟩ := r7
  have r7 : R7 h P := ⟨L, hi, q, rl, a1, a2, a3, a4, a5, a6, a7, a8, a9, K, J⟩
  have c2k' : ∀ Q', aM (d + 19) 2 [.ref 53, .ref 50] h Q' = Q' none (tfH h 53 54 55 50 51 52) := fun Q' => c2k H
  have H1 : KC (tfH h 53 54 55 50 51 52) := H
  have H2 : KC (imX h) := H
  have M1 : KM (imX h) := HM
  have e0 : pI (tfH h 53 54 55 50 51 52) 2 11 (nI 1) = imX h := rfl
  have e53 : gI (imX h) 53 0 = nI q := a4
  have e32 : gI (imX h) 65 32 = nI q := a5
  have F1 : Fr S8 dT h (imX h) := by
    have e : imX h = pI (pA (pA (pI (pI (pI h 53 0 (gI h 50 0)) 53 1 (gI h 50 1)) 53 2 (gI h 50 2)) 54 (pre (gI h 51) 12 (gI h 54))) 55 (pre (gI h 52) 4 (gI h 55))) 2 11 (nI 1) := by
      unfold imX tfH tfF
      simp only [pI_def, pA_pA, gI_eq]
    rw [e]
    refine Fr_trans (Fr_trans (Fr_trans (Fr_trans (Fr_trans (Fr_pI ?_) (Fr_pI ?_)) (Fr_pI ?_)) (Fr_pA (fun k => ?_))) (Fr_pA (fun k => ?_))) (Fr_pI ?_) <;> (unfold S8; omega)
  have F2 : Fr S8 dT (imX h) (imH (imX h)) := by
    have e : imH (imX h) = pA (pA (pI (pI (pI (pI (imX h) 65 36 (nI 1)) 65 37 (gI (imX h) 65 32)) 65 38 (gI (imX h) 65 33)) 65 39 (gI (imX h) 65 34)) 93 (pre (gI (imX h) 67) 4 (gI (imX h) 93))) 92 (pre (gI (imX h) 91) 12 (gI (imX h) 92)) := by
      unfold imH imF
      simp only [pI_def, pA_pA, gI_eq]
    rw [e]
    refine Fr_trans (Fr_trans (Fr_trans (Fr_trans (Fr_trans (Fr_pI ?_) (Fr_pI ?_)) (Fr_pI ?_)) (Fr_pI ?_)) (Fr_pA (fun k => ?_))) (Fr_pA (fun k => ?_)) <;> (unfold S8; omega)
  have F := Fr_trans F1 F2
  have r8' : R8 (imH (imX h)) P := by
    refine ⟨rfl, Or.inr rfl, fun _ => ⟨L, hi, q, rl, P 67, fun b hb => ⟨?_, ?_⟩, a2, a3, a4, a5, a6, a7, fun l hl => ⟨?_, ?_, V.2.2.2 l hl⟩, a8, a9, by rw [wP_self]; exact K, by rw [wP_self]; exact J⟩⟩
    · have : gI (imH (imX h)) 54 b = pre (gI h 51) 12 (gI h 54) b := rfl
      rw [this, pre_in hb]; exact (a1 b hb).1
    · have : gI (imH (imX h)) 92 b = pre (gI h 91) 12 (gI (imX h) 92) b := rfl
      rw [this, pre_in hb]; exact (a1 b hb).2
    · have : gI (imH (imX h)) 55 l = pre (gI h 52) 4 (gI h 55) l := rfl
      rw [this, pre_in hl]; exact hw l hl
    · have : gI (imH (imX h)) 93 l = pre (gI h 67) 4 (gI (imX h) 93) l := rfl
      rw [this, pre_in hl, ← hP]; rfl
  refine Pr_e (h1 := imX h) (h2 := imH (imX h)) (v := nI q) (fun Q => ?_) (fun Q => by rw [c210 M1, e32]) ?_
  · have t2a := gt_2 H1
    have t2b := gt_2 H2
    have q2 := gr_2_10 H2
    have t53 := gt_53 H2
    simp (disch := first | omega | assumption | exact gt_2 H | exact gt_53 H | (simp only [gT_pA, gT_pI, gT_pR]; first | assumption | exact gt_2 H | exact gt_53 H) | fail) only [s120_0, s120_1, s120_4, s120_5, s120_8, s120_11, s120_12, s120_13, s120_16, s120_17, s120_20, s120_23, gr_2_10 H, gr_2_9 H, gt_2 H, gt_53 H, am120, isRf_ref, true_and, and_true, aPs_s, aPs_n, b01_0, b01_1, nI_clamp, ix_nI, inb_nI, lt_nI, eq_nI, nn_nI, eq0_nI, pk_mul, nI_add, lt_T, lt_F, if_true, if_false, true_and, and_true, neg1_nI, neg1_lt, neg1_neg, lt_neg1, eqN_F, eq_self,  c2k', t2a, t2b, q2, t53, e0, e53, nI1_0, b01_1]
  · exact ⟨p, P, tl, R1_fr (Fr_pT F) (by intro o k; simp only [D1, S8]; omega) r1, R2_fr F (by intro o k; simp only [D2, S8]; omega) r2, R3_fr F (by intro o k; simp only [D3, S8]; omega) r3, R4_fr F (by intro o k; simp only [D4, S8]; omega) r4, R5_fr F (by intro o k; simp only [D5, S8]; omega) r5, R6_fr F (by intro o k; simp only [D6, S8]; omega) r6, R7_fr F (by intro o k; simp only [D7, S8]; omega) r7, r8', R9_fr F (by intro o k; simp only [D9, S8]; omega) r9, RA_fr F (by intro o k; simp only [DA, S8]; omega) ra, RB_fr F (by intro o k; simp only [DB, S8]; omega) rb⟩
end R6
