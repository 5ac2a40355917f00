/-! BOTH SIDES, call by call: a TEXT is taken, the call -/
section RB
variable {d : Nat} {h0 h : abH} {Q : Option Value → abH → Prop}
set_option maxHeartbeats 8000000 in
theorem p_prog (R : Rel h0 h) : Pr d h0 h 96 151 [.ref 2] [.ref 65] := by
  have R' := R
  obtain ⟨p, P, tl, r1, r2, r3, r4, r5, r6, r7, r8, r9, ra, rb⟩ := R
  have R0 := r1
  obtain ⟨-, -, H, HM, AB0⟩ := R0
  have R0 := r2
  obtain ⟨hp, r21, r22, hP, W, Tv, T, h29, hw, TMh⟩ := R0
  have V := W.1
  have s10 := V.s.1
  have C := TMh.1.1
  have f3 := TMh.2.2.1
  have t2 := TMh.2.2.2
  obtain ⟨c, T', tC, tH⟩ := rb
  generalize hq22 : 22 - p = q at r22
  have hq : q = 5 ∨ q = 17 := by omega
  have hpq : q = 22 - p := hq22.symm
  have n67 : ∀ j, j < 4 → bn (nwV h 67 j) 100 := by
    intro j hj
    have : nwV h 67 j = nI 0 := by
      unfold nwV
      rw [if_neg (by omega), if_neg (by omega)]
      rfl
    rw [this]
    exact bn_nI (by omega) (by omega)
  obtain ⟨G', k1, k2⟩ := c57 (d := d + 14) H hq tC (B := nwV h) n67
  have aR : (pgR c T' (nwV h)).2.1 ≤ T' := prg_le (Nat.zero_le _)
  have T240 := tC.2.1
  have t151 := fun (h1 : abH) (M1 : KM h1) (e : ∀ o, 65 ≤ o → gI h1 o = gI h o) (Q2 : Option Value → abH → Prop) => c151 (d := d + 16) (Q := Q2) M1 (c := c) (T := T') ⟨by rw [e 65 (by omega)]; exact tH.1, tH.2.1, fun j hj => by rw [e 66 (by omega)]; exact tH.2.2 j hj⟩
  generalize hr : pgR c T' (nwV h) = r at *
  have F0 : Fr (fun o _ => o = 3 ∨ (q ≤ o ∧ o ≤ q + 11)) dT h (rx (pR h 3 4 (.ref q)) q c T' r.2.1 G') := Fr_trans (Fr_pR (Or.inl ⟨rfl, rfl⟩)) Fr_rx
  have x0q : ∀ k, k ≤ 11 → gI (rx (pR h 3 4 (.ref q)) q c T' r.2.1 G') (q + k) = G' k := fun k hk => rx_p hk
  generalize hX0 : rx (pR h 3 4 (.ref q)) q c T' r.2.1 G' = X0 at *
  have F1 : Fr (fun o _ => o = 3 ∨ (q ≤ o ∧ o ≤ q + 11)) dT h (pI X0 3 1 (nI 0)) := Fr_trans F0 (Fr_pI (Or.inl rfl))
  have H0 : KC X0 := Fr_KC (Fr_pT F0) pT_C H
  have H1 : KC (pI X0 3 1 (nI 0)) := Fr_KC (Fr_pT F1) pT_C H
  have M1 : KM (pI X0 3 1 (nI 0)) := Fr_KM (Fr_pT F1) pT_M HM
  have e65 : ∀ o, 65 ≤ o → gI (pI X0 3 1 (nI 0)) o = gI h o := fun o ho => by funext k; exact F1.2.2 o k (by omega)
  have t20 := gt_2 H0
  have q20 := gr_2_0 H0
  have t30 := gt_3 H0
  have t21 := gt_2 H1
  rcases Bool.eq_false_or_eq_true r.1 with g | g
  · -- a text that is taken
    obtain ⟨WA, RGA⟩ := k1 g
    simp only [g, if_true] at k2 t151
    have x21 : gR (pI X0 3 1 (nI 0)) 2 1 = .ref p := (F1.2.1 2 1 (by unfold dT; omega)).trans r21
    have x22 : gR (pI X0 3 1 (nI 0)) 2 2 = .ref q := (F1.2.1 2 2 (by unfold dT; omega)).trans r22
    have x213 : gI (pI X0 3 1 (nI 0)) 2 13 = gI h 2 13 := F1.2.2 2 13 (by omega)
    generalize hX1 : pI X0 3 1 (nI 0) = X1 at *
    have F2 : Fr (SPG q) pT h (pR X1 2 1 (.ref q)) := Fr_trans (Fr_mono (Fr_pT F1) SPG_q (fun _ _ q => q)) (Fr_pR (by unfold pT; omega))
    have H2 : KC (pR X1 2 1 (.ref q)) := Fr_KC F2 pT_C H
    have y22 : gR (pR X1 2 1 (.ref q)) 2 2 = .ref q := by rw [gR_pR, if_neg (by omega)]; exact x22
    have F3 : Fr (SPG q) pT h (pR (pR X1 2 1 (.ref q)) 2 2 (.ref p)) := Fr_trans F2 (Fr_pR (by unfold pT; omega))
    have H3 : KC (pR (pR X1 2 1 (.ref q)) 2 2 (.ref p)) := Fr_KC F3 pT_C H
    have y213 : gI (pR (pR X1 2 1 (.ref q)) 2 2 (.ref p)) 2 13 = gI h 2 13 := x213
    have F4 : Fr (SPG q) pT h (pI (pR (pR X1 2 1 (.ref q)) 2 2 (.ref p)) 2 13 (gI h 2 13 + nI 1)) := Fr_trans F3 (Fr_pI (Or.inr (Or.inr (Or.inr (Or.inr (Or.inr (Or.inr (Or.inr (Or.inl ⟨rfl, Or.inr rfl⟩)))))))))
    have H4 : KC (pI (pR (pR X1 2 1 (.ref q)) 2 2 (.ref p)) 2 13 (gI h 2 13 + nI 1)) := Fr_KC F4 pT_C H
    have t22 := gt_2 H2
    have t23 := gt_2 H3
    have t24 := gt_2 H4
    have z21 : gR (pI (pR (pR X1 2 1 (.ref q)) 2 2 (.ref p)) 2 13 (gI h 2 13 + nI 1)) 2 1 = .ref q := by
      show gR (pR (pR X1 2 1 (.ref q)) 2 2 (.ref p)) 2 1 = .ref q
      rw [gR_pR, if_neg (by omega), gR_pR, if_pos ⟨rfl, rfl⟩]
    have z22 : gR (pI (pR (pR X1 2 1 (.ref q)) 2 2 (.ref p)) 2 13 (gI h 2 13 + nI 1)) 2 2 = .ref p := by
      show gR (pR (pR X1 2 1 (.ref q)) 2 2 (.ref p)) 2 2 = .ref p
      rw [gR_pR, if_pos ⟨rfl, rfl⟩]
    have z213 : gI (pI (pR (pR X1 2 1 (.ref q)) 2 2 (.ref p)) 2 13 (gI h 2 13 + nI 1)) 2 13 = gI h 2 13 + nI 1 := by rw [gI_pI, if_pos ⟨rfl, rfl⟩]
    have zq : ∀ k, k ≤ 11 → gI (pI (pR (pR X1 2 1 (.ref q)) 2 2 (.ref p)) 2 13 (gI h 2 13 + nI 1)) (q + k) = G' k := by
      intro k hk
      rw [pI_def, gI_ne (by omega)]
      show gI X1 (q + k) = G' k
      rw [← hX1, pI_def, gI_ne (by omega)]
      exact x0q k hk
    have z3 : gI (pI (pR (pR X1 2 1 (.ref q)) 2 2 (.ref p)) 2 13 (gI h 2 13 + nI 1)) 3 1 = nI 0 := by
      rw [pI_def, gI_ne (by omega)]
      show gI X1 3 1 = nI 0
      rw [← hX1, gI_pI, if_pos ⟨rfl, rfl⟩]
    have z65 : ∀ o, 65 ≤ o → gI (pI (pR (pR X1 2 1 (.ref q)) 2 2 (.ref p)) 2 13 (gI h 2 13 + nI 1)) o = gI h o := fun o ho => by
      rw [pI_def, gI_ne (by omega)]
      exact e65 o ho
    have z52 : ∀ l, gI (pI (pR (pR X1 2 1 (.ref q)) 2 2 (.ref p)) 2 13 (gI h 2 13 + nI 1)) 52 l = gI h 52 l := fun l => F4.2.2 52 l (by unfold SPG rwS rnS; omega)
    intro Q1 hQ1
    simp (disch := first | omega | assumption | exact gtP H hp | exact gt_2 H | exact gt_3 H | (simp only [gT_pA, gT_pI, gT_pR]; first | assumption | exact gtP H hp | exact gt_2 H | exact gt_3 H) | fail) only [s96_0, s96_1, s96_4, s96_5, s96_8, s96_11, s96_12, s96_13, s96_16, s96_17, s96_20, s96_21, s96_24, s96_26, s96_27, s96_28, s96_29, s96_30, s96_33, s96_34, s96_35, s96_36, s96_39, s96_42, s96_43, s96_44, s96_47, s96_48, s96_49, s96_52, s96_53, s96_54, s96_57, s96_58, s96_61, s96_62, s96_65, s96_68, gr_2_0 H, gtP H hp, gt_2 H, gt_3 H, am96, isRf_ref, true_and, and_true, aPs_s, aPs_n, b01_0, b01_1, nI_clamp, ix_nI, inb_nI, lt_nI, eq_nI, nn_nI, eq0_nI, pk_mul, nI_add, lt_T, lt_F, if_true, if_false, true_and, and_true, neg1_nI, neg1_lt, neg1_neg, lt_neg1, eqN_F, eq_self,  r22, k2, t20, q20, t30, hX1, iflt_m1, x21, x22, t21, t22, y22, t23, y213, t24]
    generalize hX4 : pI (pR (pR X1 2 1 (.ref q)) 2 2 (.ref p)) 2 13 (gI h 2 13 + nI 1) = X4 at *
    have P67 : pv (pgH h r) 67 = P 67 := by rw [pv_at (by omega), pg_67, ← hP]; rfl
    have W' : okW (pv (pgH h r)) := okW_cg WA (AG_pg WA) pg_4 (fun j hj => by rw [P67]; exact V.2.2.2 j hj)
    have S' : nS (pv (pgH h r)) = nS r.2.2 := rfl
    have C4 : CP X4 q (pv (pgH h r)) := CP_RG.mpr (RG_ext (G := G') zq (RG_cg (A := r.2.2) (N := nS r.2.2) RGA (AG_pg WA)))
    refine t133 (d := d + 13) H4 (AB_of (by funext k; exact F4.2.2 1 k (by unfold SPG rwS rnS; omega)) AB0) hq z21 W' C4 (fun l hl => by rw [z52 l, P67]; exact hw l hl) (fun X5 F5 T5 e39 => ?_)
    have F45 : Fr (SPG q) pT h (bgX X4) := Fr_trans F4 (Fr_mono Fr_bg SPG_bg (fun _ _ q => q))
    have F5' : Fr (SPG q) pT h X5 := Fr_trans F45 (Fr_mono F5 (fun o k hq => Or.inr (Or.inr (Or.inl hq))) (fun o k q => q.elim (fun z => Or.inr (Or.inl z)) (fun z => Or.inr (Or.inr (Or.inl z)))))
    have H5 : KC X5 := Fr_KC F5' pT_C H
    have M5 : KM X5 := Fr_KM F5' pT_M HM
    have w65 : ∀ o, 65 ≤ o → gI X5 o = gI h o := fun o ho => by
      funext k
      rw [F5.2.2 o k (by unfold rwS rnS; omega), (Fr_bg (h := X4) (R := pT)).2.2 o k (by omega), z65 o ho]
    have w21 : gR X5 2 1 = .ref q := by
      rw [F5.2.1 2 1 (by unfold rnT; omega)]
      exact z21
    have w22 : gR X5 2 2 = .ref p := by
      rw [F5.2.1 2 2 (by unfold rnT; omega)]
      exact z22
    have w6 : gI X5 q 6 = nI (nS r.2.2) := T5.1.1.s
    have tq := gtP H5 hq
    have t25 := gt_2 H5
    simp (disch := first | omega | assumption | exact gt_2 H5 | exact gt_3 H5 | (simp only [gT_pA, gT_pI, gT_pR]; first | assumption | exact gt_2 H5 | exact gt_3 H5) | fail) only [s96_0, s96_1, s96_4, s96_5, s96_8, s96_11, s96_12, s96_13, s96_16, s96_17, s96_20, s96_21, s96_24, s96_26, s96_27, s96_28, s96_29, s96_30, s96_33, s96_34, s96_35, s96_36, s96_39, s96_42, s96_43, s96_44, s96_47, s96_48, s96_49, s96_52, s96_53, s96_54, s96_57, s96_58, s96_61, s96_62, s96_65, s96_68, gr_2_0 H5, gt_2 H5, gt_3 H5, am96, isRf_ref, true_and, and_true, aPs_s, aPs_n, b01_0, b01_1, nI_clamp, ix_nI, inb_nI, lt_nI, eq_nI, nn_nI, eq0_nI, pk_mul, nI_add, lt_T, lt_F, if_true, if_false, true_and, and_true, neg1_nI, neg1_lt, neg1_neg, lt_neg1, eqN_F, eq_self,  w21, w6, tq, t25]
    refine hQ1 (nI (nS r.2.2)) X5 (fun Q2 hQ2 => ?_)
    have e1 := t151 X5 M5 w65 Q2
    rw [nwV_cg w65, hr] at e1
    simp only [g, if_true] at e1
    rw [e1]
    have F6 : Fr (SPG q) pT h (pgH X5 r) := Fr_trans F5' Fr_pg
    have v65 : ∀ o k, o < 65 → gI (pgH X5 r) o k = gI X5 o k := fun o k ho => by
      have q1 : gI (pgH X5 r) o = gI X5 o := pg_o (by omega) (by omega) (by omega) (by omega) (by omega)
      rw [q1]
    have b65 : ∀ o k, o < 65 → ¬ rwS o k → gI (pgH X5 r) o k = gI (bgX X4) o k := fun o k ho hn => (v65 o k ho).trans (F5.2.2 o k hn)
    have b45 : ∀ b, b < 12 → gI (pgH X5 r) 45 b = -1 := fun b hb => by
      rw [b65 45 b (by omega) (by unfold rwS rnS; omega)]
      have : gI (bgX X4) 45 b = pre (fun _ => -1) 12 (gI X4 45) b := rfl
      rw [this, pre_in hb]
    have b51 : ∀ b, b < 12 → gI (pgH X5 r) 51 b = -1 := fun b hb => by
      rw [b65 51 b (by omega) (by unfold rwS rnS; omega)]
      have : gI (bgX X4) 51 b = pre (fun _ => -1) 12 (gI X4 51) b := rfl
      rw [this, pre_in hb]
    have r2' : R2 (pgH X5 r) q (pv (pgH h r)) none := by
      refine ⟨hq, pg_R.trans w21, ?_, pv_pg w65, W', (fun f hf => by cases hf), ⟨by rw [pg_65]; rfl, fun f hf => by cases hf⟩, ?_, fun l hl => ?_, ?_⟩
      · have : 22 - q = p := by omega
        rw [this, pg_R]
        exact w22
      · rw [b65 29 2 (by omega) (by unfold rwS rnS; omega)]
        rfl
      · rw [v65 52 l (by omega), F5.2.2 52 l (by unfold rwS rnS; omega), (Fr_bg (h := X4) (R := pT)).2.2 52 l (by omega), z52 l, P67]
        exact hw l hl
      · exact TM_cg (h := X5) hq (fun o k hh => v65 o k (by omega)) pg_R pg_R T5
    have r7' : R7 (pgH X5 r) (pv (pgH h r)) := by
      obtain ⟨L, hi, q', rl, a1, a2, a3, a4, a5, a6, a7, a8, a9⟩ := r7
      refine ⟨fun _ => none, 0, 0, rl, fun b hb => ⟨b51 b hb, ?_⟩, ?_, by rw [pg_65]; rfl, ?_, by rw [pg_65]; rfl, ?_, ?_, a8, Nat.zero_le _, ⟨fun _ _ _ => rfl, fun b hb x hx => (by cases hx), Nat.zero_le _⟩, dj_none (fun _ _ => rfl)⟩
      · rw [pg_91, pre_in hb]; rfl
      · rw [b65 50 1 (by omega) (by unfold rwS rnS; omega)]; rfl
      · rw [b65 50 0 (by omega) (by unfold rwS rnS; omega)]; rfl
      · rw [F6.2.2 50 2 (by unfold SPG rwS rnS; omega)]; exact a6
      · rw [F6.2.2 65 34 (by unfold SPG rwS rnS; omega)]; exact a7
    have r5' : R5 (pgH X5 r) := by
      intro b hb
      rw [b45 b hb, pg_89, pre_in hb]
      exact ⟨rfl, by decide +kernel⟩
    have b211 : gI (pgH X5 r) 2 11 = nI 0 := by
      rw [b65 2 11 (by omega) (by unfold rwS rnS; omega)]
      rfl
    have r8' : R8 (pgH X5 r) (pv (pgH h r)) := by
      have e36 : gI (pgH X5 r) 65 36 = nI 0 := by rw [pg_65]; rfl
      refine ⟨b211.trans e36.symm, by rw [e36]; exact Or.inl rfl, fun hn => ?_⟩
      exact (hn e36).elim
    have ra' : RA (pgH X5 r) := by
      have ra : gI h 2 13 = gI h 65 2 := ra
      show gI (pgH X5 r) 2 13 = gI (pgH X5 r) 65 2
      rw [b65 2 13 (by omega) (by unfold rwS rnS; omega), (Fr_bg (h := X4) (R := pT)).2.2 2 13 (by omega), z213, ra]
      have : gI (pgH X5 r) 65 2 = gI X5 65 2 + nI 1 := by rw [pg_65]; rfl
      rw [this, w65 65 (by omega)]
    have rb' : RB (pgH X5 r) := by
      refine ⟨c, 0, ⟨?_, Nat.zero_le _, fun j hj => by omega⟩, ⟨by rw [pg_65]; rfl, Nat.zero_le _, fun j hj => by omega⟩⟩
      rw [b65 3 1 (by omega) (by unfold rwS rnS; omega), (Fr_bg (h := X4) (R := pT)).2.2 3 1 (by omega)]
      exact z3
    have e39' : gI (pgH X5 r) 39 0 = nI 0 := (v65 39 0 (by omega)).trans e39
    refine hQ2 _ ⟨q, pv (pgH h r), none, R1_fr F6 ?_ r1, r2', ⟨by rw [e39']; exact Or.inl rfl, fun q => (q e39').elim⟩, R4_fr F6 ?_ r4, r5', R6_fr F6 ?_ r6, r7', r8', R9_fr F6 ?_ r9, ra', rb'⟩
    · intro o k; simp only [D1, SPG, rwS, rnS]; omega
    · intro o k; simp only [D4, SPG, rwS, rnS]; omega
    · intro o k; simp only [D6, SPG, rwS, rnS]; omega
    · intro o k; simp only [D9, SPG, rwS, rnS]; omega
  · -- a FAULT
    simp only [g, Bool.false_eq_true, if_false] at k2 t151
    refine Pr_e (h1 := pI X0 3 1 (nI 0)) (h2 := pgF (pI X0 3 1 (nI 0)) r) (v := (-100) - nI r.2.1) (fun Q => ?_) (fun Q => ?_) ?_
    · simp (disch := first | omega | assumption | exact gtP H hp | exact gt_2 H | exact gt_3 H | (simp only [gT_pA, gT_pI, gT_pR]; first | assumption | exact gtP H hp | exact gt_2 H | exact gt_3 H) | fail) only [s96_0, s96_1, s96_4, s96_5, s96_8, s96_11, s96_12, s96_13, s96_16, s96_17, s96_20, s96_21, s96_24, s96_26, s96_27, s96_28, s96_29, s96_30, s96_33, s96_34, s96_35, s96_36, s96_39, s96_42, s96_43, s96_44, s96_47, s96_48, s96_49, s96_52, s96_53, s96_54, s96_57, s96_58, s96_61, s96_62, s96_65, s96_68, gr_2_0 H, gtP H hp, gt_2 H, gt_3 H, am96, isRf_ref, true_and, and_true, aPs_s, aPs_n, b01_0, b01_1, nI_clamp, ix_nI, inb_nI, lt_nI, eq_nI, nn_nI, eq0_nI, pk_mul, nI_add, lt_T, lt_F, if_true, if_false, true_and, and_true, neg1_nI, neg1_lt, neg1_neg, lt_neg1, eqN_F, eq_self,  r22, k2, t20, q20, t30, t21, nn_nI]
    · have e1 := t151 _ M1 e65 Q
      rw [nwV_cg e65, hr] at e1
      simp only [g, Bool.false_eq_true, if_false] at e1
      exact e1
    · have F2 : Fr (SPF q) dT h (pgF (pI X0 3 1 (nI 0)) r) := Fr_trans (Fr_mono F1 (fun o k hq => hq.elim Or.inl (fun z => Or.inr (Or.inl z))) (fun _ _ q => q)) (Fr_trans (Fr_mono Fr_nw (fun o k hq => hq.elim (fun z => Or.inr (Or.inr (Or.inl z))) (fun z => Or.inr (Or.inr (Or.inr ⟨z.1, z.2.elim Or.inl (fun y => Or.inr (Or.inl y))⟩)))) (fun _ _ q => q)) (Fr_pI (by unfold SPF; omega)))
      have rb' : RB (pgF (pI X0 3 1 (nI 0)) r) := by
        refine ⟨c, 0, ⟨?_, Nat.zero_le _, fun j hj => by omega⟩, ⟨?_, Nat.zero_le _, fun j hj => by omega⟩⟩
        · show gI (pI (nwH (pI X0 3 1 (nI 0)) r.2.1 r.2.2) 65 1 (nI 0)) 3 1 = nI 0
          rw [pI_def, gI_ne (by omega)]
          show nwF (pI X0 3 1 (nI 0)) r.2.1 r.2.2 3 1 = nI 0
          unfold nwF
          rw [if_neg (by omega), if_neg (by omega), gI_pI, if_pos ⟨rfl, rfl⟩]
        · show gI (pI (nwH (pI X0 3 1 (nI 0)) r.2.1 r.2.2) 65 1 (nI 0)) 65 1 = nI 0
          rw [gI_pI, if_pos ⟨rfl, rfl⟩]
      rw [← hq22] at r22
      have r2' : R2 (pgF (pI X0 3 1 (nI 0)) r) p P tl := R2_frp F2 (by intro o k; simp only [D2p, SPF]; omega) r2
      exact ⟨p, P, tl, R1_fr (Fr_pT F2) (by intro o k; simp only [D1, SPF]; omega) r1, r2', R3_fr F2 (by intro o k; simp only [D3, SPF]; omega) r3, R4_fr F2 (by intro o k; simp only [D4, SPF]; omega) r4, R5_fr F2 (by intro o k; simp only [D5, SPF]; omega) r5, R6_fr F2 (by intro o k; simp only [D6, SPF]; omega) r6, R7_fr F2 (by intro o k; simp only [D7, SPF]; omega) r7, R8_fr F2 (by intro o k; simp only [D8, SPF]; omega) r8, R9_fr F2 (by intro o k; simp only [D9, SPF]; omega) r9, RA_fr F2 (by intro o k; simp only [DA, SPF]; omega) ra, rb'⟩
end RB
