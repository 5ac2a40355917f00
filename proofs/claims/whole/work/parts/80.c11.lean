/-! THE CLASS: walk, moveDown, whoHolds, empty, takeFrom -/
section C11
variable {d p : Nat} {h : abH} {Q : Option Value → abH → Prop}
set_option maxHeartbeats 8000000 in
theorem c3 (H : KC h) (hp : p = 5 ∨ p = 17) {P : Nat → Nat → Int32} (W : okW P) (T : TH h p P) (LDh : LD h P) {o : Nat → Nat} (O : ordV P o) (TLo : TL h P o) {L : Nat → Option Nat} {rl hi q : Nat} (hq : q < nS P) (K : flK P L hi q) (J : dj P L) (hr : gI h 50 2 = nI rl) (hrl : rl < 3) : aM (d + 3) 3 [.ref 50, .ref 29] (flX 51 50 1 0 h L hi q) Q = Q none (flX 51 50 1 0 h (reL P o (stL P o rl L q) q) (stH P o rl L hi q) (q + 1)) := by
  have V := W.1
  have s10 := V.s.1
  have C := T.1
  have r29 := T.2
  have hz := LDh.1
  have HMa : ∀ L hi q, KC (flX 51 50 1 0 h L hi q) := fun _ _ _ => H
  have r3 : ∀ L hi q, gR (flX 51 50 1 0 h L hi q) 29 1 = .ref p := fun _ _ _ => r29
  have CX : ∀ L hi q, CP (flX 51 50 1 0 h L hi q) p P := fun L hi q => CPg_of (fun q j h1 h2 => by rw [flX_o (by omega) (by omega)]) C
  obtain ⟨o1, oo, _⟩ := TLo.1 q hq
  have o2 := (O q hq).1
  have q10 : q < 10 := by omega
  have oq10 : o q < 10 := by omega
  have w12 := (V.w o2).2
  have hov : ∀ v, mOv P o q = some v → v < 12 := fun v hv => (mOvN_ok (show mOvN P o q 12 = some v from hv)).1
  have hB := stL_le V (rl := rl) o2 K
  have htp := tpF_le hB (Nat.le_refl 12)
  have hzc := (zC_ok V o2).2
  have k3 := K.2.2
  have e34 : ∀ L hi q', gI (flX 51 50 1 0 h L hi q') 34 q = nI (o q) := fun _ _ _ => o1
  have e35 : ∀ L hi q', gI (flX 51 50 1 0 h L hi q') 35 q = oI (mOv P o q) := fun _ _ _ => oo
  have e32 : ∀ L hi q', gI (flX 51 50 1 0 h L hi q') 32 (o q) = nI (zC P (o q)) := fun _ _ _ => (LDh.2 _ o2).1
  have ep : ∀ L hi q, gI (flX 51 50 1 0 h L hi q) 50 0 = nI q := fun L hi q => flX_p (a := 51) (f := 50) (kh := 1) (kp := 0) (h := h) (L := L) (hi := hi) (p := q)
  have eh : ∀ L hi q, gI (flX 51 50 1 0 h L hi q) 50 1 = nI hi := fun L hi q => flX_h (a := 51) (f := 50) (kh := 1) (kp := 0) (h := h) (L := L) (hi := hi) (p := q) (by decide)
  -- from what is WRITTEN on
  have tl : ∀ (L1 : Nat → Option Nat) (B : Nat), LB P L1 B → B < 2 ^ 29 → dj P L1 → wrL P L1 rl (nWt P (o q)) (mOv P o q) = stL P o rl L q → aW (d + 3) 3 30 [.ref 50, .ref 29, .ref 31, .int (nI (o q)), .retAddr 0] [] (flX 51 50 1 0 h L1 hi q) Q = Q none (flX 51 50 1 0 h (reL P o (stL P o rl L q) q) (stH P o rl L hi q) (q + 1)) := by
    intro L1 B b1 b2 J1 e1
    have c5' : ∀ Q', aM (d + 2) 5 [.ref 50, .int (nI (nWt P (o q))), .int (oI (mOv P o q)), .ref 31] (flX 51 50 1 0 h L1 hi q) Q' = Q' none (flX 51 50 1 0 h (stL P o rl L q) hi q) := fun Q' => by rw [c5 H V hz b1 (by omega) J1 w12 hov hr hrl, e1]
    have ew := (CX L1 hi q).w V o2
    generalize hS : stL P o rl L q = S at *
    have eL : ∀ c, c < 12 → gI (flX 51 50 1 0 h S hi q) 51 c = oI (S c) := fun c hc => flX_L (by decide) hc
    have c9' : ∀ Q', aM (d + 2) 9 [.ref 50, .ref 31] (flX 51 50 1 0 h S hi q) Q' = Q' (some (.int (nI (tpF P S 12)))) (flX 51 50 1 0 h S hi q) := fun Q' => c9 (HMa _ _ _) V (flC_hz hz) eL hB (by omega)
    have em := iMax_nI (a := hi) (b := tpF P S 12 + zC P (o q)) (by omega) (by omega)
    have sH : stH P o rl L hi q = if hi < tpF P S 12 + zC P (o q) then tpF P S 12 + zC P (o q) else hi := by unfold stH; rw [hS]
    have ew1 := flX_wh (a := 51) (f := 50) (kh := 1) (kp := 0) (h := h) (L := S) (hi := hi) (p := q) (q := stH P o rl L hi q) (by decide)
    rw [← sH] at em
    have t50 := gt_50 (HMa S hi q)
    have t30 := gt_30 (HMa S hi q)
    rw [s3_30]
    simp (disch := first | omega | assumption | exact gtP (HMa _ _ _) hp | exact gt_29 (HMa _ _ _) | exact gt_30 (HMa _ _ _) | exact gt_50 (HMa _ _ _) | (simp only [gT_pA, gT_pI, gT_pR]; first | assumption | exact gtP (HMa _ _ _) hp | exact gt_29 (HMa _ _ _) | exact gt_30 (HMa _ _ _) | exact gt_50 (HMa _ _ _)) | fail) only [s3_0, s3_1, s3_4, s3_7, s3_8, s3_9, s3_12, s3_13, s3_16, s3_17, s3_18, s3_19, s3_22, s3_25, s3_26, s3_27, s3_30, s3_31, s3_32, s3_35, s3_38, s3_39, s3_40, s3_41, s3_44, s3_45, s3_48, s3_49, s3_50, s3_53, s3_54, s3_55, s3_58, s3_59, s3_60, s3_63, s3_64, s3_67, s3_70, s3_71, s3_72, s3_73, s3_76, s3_79, s3_80, s3_84, s3_86, s3_89, s3_90, s3_93, s3_95, s3_96, s3_97, s3_100, s3_103, s3_104, s3_107, s3_109, s3_110, s3_111, s3_114, s3_117, s3_118, s3_119, s3_122, s3_123, s3_124, s3_127, aiP_9 (HMa _ _ _) hp, ai_32 (HMa _ _ _), ai_34 (HMa _ _ _), ai_35 (HMa _ _ _), ai_38 (HMa _ _ _), aj_51 (HMa _ _ _), grP_9 (HMa _ _ _) hp, gr_29_0 (HMa _ _ _), gr_29_4 (HMa _ _ _), gr_29_5 (HMa _ _ _), gr_29_8 (HMa _ _ _), gr_30_1 (HMa _ _ _), gr_30_2 (HMa _ _ _), gr_50_3 (HMa _ _ _), gtP (HMa _ _ _) hp, gt_29 (HMa _ _ _), gt_30 (HMa _ _ _), gt_50 (HMa _ _ _), am3, isRf_ref, true_and, and_true, aPs_s, aPs_n, b01_0, b01_1, nI_clamp, ix_nI, inb_nI, lt_nI, eq_nI, nn_nI, eq0_nI, pk_mul, nI_add, lt_T, lt_F, if_true, if_false, true_and, and_true, neg1_nI, neg1_lt, neg1_neg, lt_neg1, eqN_F, eq_self,  r3, ew, oq10, ep, q10, e35, c5', eh, c9', e32, em, ew1]
    exact c3_82 H V TLo hq
  have a34 := ai_34 H
  unfold stL at tl
  by_cases h0 : q = 0
  · subst h0
    have hl : LB P L 0 := fun b hb x hx => by rw [K.1 rfl b hb] at hx; cases hx
    have c4' : ∀ Q', aM (d + 2) 4 [.ref 50, .ref 29] (flX 51 50 1 0 h L hi 0) Q' = Q' none (flX 51 50 1 0 h (gvF P o L rl 12) hi 0) := fun Q' => c4 H hp W T hz TLo hl J hr hrl
    have t2 := tl (gvF P o L rl 12) _ (gvF_le V (o := o) (rl := rl) hl (Nat.le_refl 12)) (by omega) (dj_gv J) rfl
    simp (disch := first | omega | assumption | exact gtP (HMa _ _ _) hp | exact gt_29 (HMa _ _ _) | exact gt_30 (HMa _ _ _) | exact gt_50 (HMa _ _ _) | (simp only [gT_pA, gT_pI, gT_pR]; first | assumption | exact gtP (HMa _ _ _) hp | exact gt_29 (HMa _ _ _) | exact gt_30 (HMa _ _ _) | exact gt_50 (HMa _ _ _)) | fail) only [s3_0, s3_1, s3_4, s3_7, s3_8, s3_9, s3_12, s3_13, s3_16, s3_17, s3_18, s3_19, s3_22, s3_25, s3_26, s3_27, s3_31, s3_32, s3_35, s3_38, s3_39, s3_40, s3_41, s3_44, s3_45, s3_48, s3_49, s3_50, s3_53, s3_54, s3_55, s3_58, s3_59, s3_60, s3_63, s3_64, s3_67, s3_70, s3_71, s3_72, s3_73, s3_76, s3_79, s3_80, s3_84, s3_86, s3_89, s3_90, s3_93, s3_95, s3_96, s3_97, s3_100, s3_103, s3_104, s3_107, s3_109, s3_110, s3_111, s3_114, s3_117, s3_118, s3_119, s3_122, s3_123, s3_124, s3_127, aiP_9 (HMa _ _ _) hp, ai_32 (HMa _ _ _), ai_34 (HMa _ _ _), ai_35 (HMa _ _ _), ai_38 (HMa _ _ _), aj_51 (HMa _ _ _), grP_9 (HMa _ _ _) hp, gr_29_0 (HMa _ _ _), gr_29_4 (HMa _ _ _), gr_29_5 (HMa _ _ _), gr_29_8 (HMa _ _ _), gr_30_1 (HMa _ _ _), gr_30_2 (HMa _ _ _), gr_50_3 (HMa _ _ _), gtP (HMa _ _ _) hp, gt_29 (HMa _ _ _), gt_30 (HMa _ _ _), gt_50 (HMa _ _ _), am3, isRf_ref, true_and, and_true, aPs_s, aPs_n, b01_0, b01_1, nI_clamp, ix_nI, inb_nI, lt_nI, eq_nI, nn_nI, eq0_nI, pk_mul, nI_add, lt_T, lt_F, if_true, if_false, true_and, and_true, neg1_nI, neg1_lt, neg1_neg, lt_neg1, eqN_F, eq_self,  ep, q10, e34, nI0_0, c4']
    exact t2
  · simp only [if_neg h0] at tl
    have hn : (nI q = 0) = False := by rw [eq0_nI (by omega)]; exact eqN_F h0
    simp (disch := first | omega | assumption | exact gtP (HMa _ _ _) hp | exact gt_29 (HMa _ _ _) | exact gt_30 (HMa _ _ _) | exact gt_50 (HMa _ _ _) | (simp only [gT_pA, gT_pI, gT_pR]; first | assumption | exact gtP (HMa _ _ _) hp | exact gt_29 (HMa _ _ _) | exact gt_30 (HMa _ _ _) | exact gt_50 (HMa _ _ _)) | fail) only [s3_0, s3_1, s3_4, s3_7, s3_8, s3_9, s3_12, s3_13, s3_16, s3_17, s3_18, s3_19, s3_22, s3_25, s3_26, s3_27, s3_31, s3_32, s3_35, s3_38, s3_39, s3_40, s3_41, s3_44, s3_45, s3_48, s3_49, s3_50, s3_53, s3_54, s3_55, s3_58, s3_59, s3_60, s3_63, s3_64, s3_67, s3_70, s3_71, s3_72, s3_73, s3_76, s3_79, s3_80, s3_84, s3_86, s3_89, s3_90, s3_93, s3_95, s3_96, s3_97, s3_100, s3_103, s3_104, s3_107, s3_109, s3_110, s3_111, s3_114, s3_117, s3_118, s3_119, s3_122, s3_123, s3_124, s3_127, aiP_9 (HMa _ _ _) hp, ai_32 (HMa _ _ _), ai_34 (HMa _ _ _), ai_35 (HMa _ _ _), ai_38 (HMa _ _ _), aj_51 (HMa _ _ _), grP_9 (HMa _ _ _) hp, gr_29_0 (HMa _ _ _), gr_29_4 (HMa _ _ _), gr_29_5 (HMa _ _ _), gr_29_8 (HMa _ _ _), gr_30_1 (HMa _ _ _), gr_30_2 (HMa _ _ _), gr_50_3 (HMa _ _ _), gtP (HMa _ _ _) hp, gt_29 (HMa _ _ _), gt_30 (HMa _ _ _), gt_50 (HMa _ _ _), am3, isRf_ref, true_and, and_true, aPs_s, aPs_n, b01_0, b01_1, nI_clamp, ix_nI, inb_nI, lt_nI, eq_nI, nn_nI, eq0_nI, pk_mul, nI_add, lt_T, lt_F, if_true, if_false, true_and, and_true, neg1_nI, neg1_lt, neg1_neg, lt_neg1, eqN_F, eq_self,  ep, q10, e34, hn]
    have e9 : stL P o rl L q = wrL P L rl (nWt P (o q)) (mOv P o q) := by unfold stL; rw [if_neg h0]
    have t2 := tl L _ K.2.1 (by omega) J rfl
    rw [e9]
    exact t2
set_option maxHeartbeats 4000000 in
theorem c11 (H : KC h) {P : Nat → Nat → Int32} {L : Nat → Option Nat} {B D : Nat} (hL : ∀ b, b < 12 → gI h 51 b = oI (L b)) (hB : LB P L B) (hB2 : B < 2 ^ 30) (hD : D < 4096) : aM d 11 [.ref 50, .int (nI D)] h Q = Q (some (.int (oI (lwB L D 12)))) h := by
  have loop := for_0 (F := fun b => aW d 11 4 [.ref 50, .int (nI D), .int (oI (lwB L D b)), .int (nI b)] [] h Q) (R := Q (some (.int (oI (lwB L D 12)))) h) 12 (by
    rw [s11_4]
    simp (disch := first | omega | assumption | exact gt_50 H | (simp only [gT_pA, gT_pI, gT_pR]; first | assumption | exact gt_50 H) | fail) only [s11_0, s11_1, s11_2, s11_3, s11_5, s11_7, s11_10, s11_11, s11_14, s11_15, s11_16, s11_19, s11_20, s11_21, s11_22, s11_23, s11_24, s11_27, s11_28, s11_31, s11_32, s11_35, s11_36, s11_37, s11_38, s11_41, s11_42, s11_43, s11_46, s11_47, s11_48, s11_51, s11_54, s11_55, ai_51 H, gr_50_3 H, gt_50 H, am11, isRf_ref, true_and, and_true, aPs_s, aPs_n, b01_0, b01_1, nI_clamp, ix_nI, inb_nI, lt_nI, eq_nI, nn_nI, eq0_nI, pk_mul, nI_add, lt_T, lt_F, if_true, if_false, true_and, and_true, neg1_nI, neg1_lt, neg1_neg, lt_neg1, eqN_F, eq_self,  Nat.lt_irrefl]) (fun b hb => by
    have hb2 := hL b hb
    rw [s11_4, lwB]
    cases hy : L b with
    | none =>
      rw [hy] at hb2
      simp (disch := first | omega | assumption | exact gt_50 H | (simp only [gT_pA, gT_pI, gT_pR]; first | assumption | exact gt_50 H) | fail) only [s11_0, s11_1, s11_2, s11_3, s11_5, s11_7, s11_10, s11_11, s11_14, s11_15, s11_16, s11_19, s11_20, s11_21, s11_22, s11_23, s11_24, s11_27, s11_28, s11_31, s11_32, s11_35, s11_36, s11_37, s11_38, s11_41, s11_42, s11_43, s11_46, s11_47, s11_48, s11_51, s11_54, s11_55, ai_51 H, gr_50_3 H, gt_50 H, am11, isRf_ref, true_and, and_true, aPs_s, aPs_n, b01_0, b01_1, nI_clamp, ix_nI, inb_nI, lt_nI, eq_nI, nn_nI, eq0_nI, pk_mul, nI_add, lt_T, lt_F, if_true, if_false, true_and, and_true, neg1_nI, neg1_lt, neg1_neg, lt_neg1, eqN_F, eq_self,  hb, hb2, oI_n, iflt_m1]
    | some y =>
      rw [hy] at hb2
      have h1 := hB b hb y hy
      unfold lwC
      rcases Bool.eq_false_or_eq_true (tb D b) with g | g
      · simp (disch := first | omega | assumption | exact gt_50 H | (simp only [gT_pA, gT_pI, gT_pR]; first | assumption | exact gt_50 H) | fail) only [s11_0, s11_1, s11_2, s11_3, s11_5, s11_7, s11_10, s11_11, s11_14, s11_15, s11_16, s11_19, s11_20, s11_21, s11_22, s11_23, s11_24, s11_27, s11_28, s11_31, s11_32, s11_35, s11_36, s11_37, s11_38, s11_41, s11_42, s11_43, s11_46, s11_47, s11_48, s11_51, s11_54, s11_55, ai_51 H, gr_50_3 H, gt_50 H, am11, isRf_ref, true_and, and_true, aPs_s, aPs_n, b01_0, b01_1, nI_clamp, ix_nI, inb_nI, lt_nI, eq_nI, nn_nI, eq0_nI, pk_mul, nI_add, lt_T, lt_F, if_true, if_false, true_and, and_true, neg1_nI, neg1_lt, neg1_neg, lt_neg1, eqN_F, eq_self,  hb, hb2, oI_s, nn_nI, bit_0, g, Bool.not_false, Bool.not_true, Bool.true_and, Bool.false_and, Bool.and_true, Bool.and_false, Bool.or_true, Bool.or_false, Bool.true_or, Bool.false_or, Bool.true_eq_false, Bool.false_eq_true, if_true, if_false, Option.isSome_some, Option.isSome_none, Option.isNone_some, Option.isNone_none, zB_t, zB_f, nI1_0, nI0_0]
      · cases hq : lwB L D b with
        | none => simp (disch := first | omega | assumption | exact gt_50 H | (simp only [gT_pA, gT_pI, gT_pR]; first | assumption | exact gt_50 H) | fail) only [s11_0, s11_1, s11_2, s11_3, s11_5, s11_7, s11_10, s11_11, s11_14, s11_15, s11_16, s11_19, s11_20, s11_21, s11_22, s11_23, s11_24, s11_27, s11_28, s11_31, s11_32, s11_35, s11_36, s11_37, s11_38, s11_41, s11_42, s11_43, s11_46, s11_47, s11_48, s11_51, s11_54, s11_55, ai_51 H, gr_50_3 H, gt_50 H, am11, isRf_ref, true_and, and_true, aPs_s, aPs_n, b01_0, b01_1, nI_clamp, ix_nI, inb_nI, lt_nI, eq_nI, nn_nI, eq0_nI, pk_mul, nI_add, lt_T, lt_F, if_true, if_false, true_and, and_true, neg1_nI, neg1_lt, neg1_neg, lt_neg1, eqN_F, eq_self,  hb, hb2, oI_s, oI_n, nn_nI, bit_0, g, Bool.not_false, Bool.not_true, Bool.true_and, Bool.false_and, Bool.and_true, Bool.and_false, Bool.or_true, Bool.or_false, Bool.true_or, Bool.false_or, Bool.true_eq_false, Bool.false_eq_true, if_true, if_false, Option.isSome_some, Option.isSome_none, Option.isNone_some, Option.isNone_none, zB_t, zB_f, nI1_0, nI0_0, iflt_m1]
        | some a =>
          obtain ⟨q1, q2, z, q3⟩ := lwB_ok hq
          have ha := hL a (by omega)
          rw [q3] at ha
          have h2 := hB a (by omega) z q3
          have ha12 : a < 12 := by omega
          by_cases h5 : y < z
          · simp (disch := first | omega | assumption | exact gt_50 H | (simp only [gT_pA, gT_pI, gT_pR]; first | assumption | exact gt_50 H) | fail) only [s11_0, s11_1, s11_2, s11_3, s11_5, s11_7, s11_10, s11_11, s11_14, s11_15, s11_16, s11_19, s11_20, s11_21, s11_22, s11_23, s11_24, s11_27, s11_28, s11_31, s11_32, s11_35, s11_36, s11_37, s11_38, s11_41, s11_42, s11_43, s11_46, s11_47, s11_48, s11_51, s11_54, s11_55, ai_51 H, gr_50_3 H, gt_50 H, am11, isRf_ref, true_and, and_true, aPs_s, aPs_n, b01_0, b01_1, nI_clamp, ix_nI, inb_nI, lt_nI, eq_nI, nn_nI, eq0_nI, pk_mul, nI_add, lt_T, lt_F, if_true, if_false, true_and, and_true, neg1_nI, neg1_lt, neg1_neg, lt_neg1, eqN_F, eq_self,  hb, hb2, oI_s, nn_nI, bit_0, g, Bool.not_false, Bool.not_true, Bool.true_and, Bool.false_and, Bool.and_true, Bool.and_false, Bool.or_true, Bool.or_false, Bool.true_or, Bool.false_or, Bool.true_eq_false, Bool.false_eq_true, if_true, if_false, Option.isSome_some, Option.isSome_none, Option.isNone_some, Option.isNone_none, zB_t, zB_f, nI1_0, nI0_0, ha12, ha, q3, Option.getD_some, h5, decide_true]
          · simp (disch := first | omega | assumption | exact gt_50 H | (simp only [gT_pA, gT_pI, gT_pR]; first | assumption | exact gt_50 H) | fail) only [s11_0, s11_1, s11_2, s11_3, s11_5, s11_7, s11_10, s11_11, s11_14, s11_15, s11_16, s11_19, s11_20, s11_21, s11_22, s11_23, s11_24, s11_27, s11_28, s11_31, s11_32, s11_35, s11_36, s11_37, s11_38, s11_41, s11_42, s11_43, s11_46, s11_47, s11_48, s11_51, s11_54, s11_55, ai_51 H, gr_50_3 H, gt_50 H, am11, isRf_ref, true_and, and_true, aPs_s, aPs_n, b01_0, b01_1, nI_clamp, ix_nI, inb_nI, lt_nI, eq_nI, nn_nI, eq0_nI, pk_mul, nI_add, lt_T, lt_F, if_true, if_false, true_and, and_true, neg1_nI, neg1_lt, neg1_neg, lt_neg1, eqN_F, eq_self,  hb, hb2, oI_s, nn_nI, bit_0, g, Bool.not_false, Bool.not_true, Bool.true_and, Bool.false_and, Bool.and_true, Bool.and_false, Bool.or_true, Bool.or_false, Bool.true_or, Bool.false_or, Bool.true_eq_false, Bool.false_eq_true, if_true, if_false, Option.isSome_some, Option.isSome_none, Option.isNone_some, Option.isNone_none, zB_t, zB_f, nI1_0, nI0_0, ha12, ha, q3, Option.getD_some, h5, decide_false])
  simp (disch := first | omega | assumption | exact gt_50 H | (simp only [gT_pA, gT_pI, gT_pR]; first | assumption | exact gt_50 H) | fail) only [s11_0, s11_1, s11_2, s11_3, s11_5, s11_7, s11_10, s11_11, s11_14, s11_15, s11_16, s11_19, s11_20, s11_21, s11_22, s11_23, s11_24, s11_27, s11_28, s11_31, s11_32, s11_35, s11_36, s11_37, s11_38, s11_41, s11_42, s11_43, s11_46, s11_47, s11_48, s11_51, s11_54, s11_55, ai_51 H, gr_50_3 H, gt_50 H, am11, isRf_ref, true_and, and_true, aPs_s, aPs_n, b01_0, b01_1, nI_clamp, ix_nI, inb_nI, lt_nI, eq_nI, nn_nI, eq0_nI, pk_mul, nI_add, lt_T, lt_F, if_true, if_false, true_and, and_true, neg1_nI, neg1_lt, neg1_neg, lt_neg1, eqN_F, eq_self, ]
  exact loop
set_option maxHeartbeats 4000000 in
theorem c10 (H : KC h) {P : Nat → Nat → Int32} (V : okP P) (hz : ∀ b, b < 12 → gI h 31 b = nI (zS P b)) {L : Nat → Option Nat} {B : Nat} (hL : ∀ b, b < 12 → gI h 51 b = oI (L b)) (hB : LB P L B) (hB2 : B < 2 ^ 30) (hB3 : 470448 ≤ B) : aM (d + 1) 10 [.ref 50, .ref 31] h Q = Q (some (.int (nI (cpF P L 12).2.2.2))) (laX 51 h (cpF P L 12).1) := by
  have HMa : ∀ L, KC (laX 51 h L) := fun _ => H
  have fin : ∀ (n : Nat) (x : Value), aW (d + 1) 10 81 [.ref 50, .ref 31, .int (nI (cpF P L 12).2.2.2), .int (nI (cpF P L 12).2.2.1), .int (nI (cpF P L 12).2.1), .int (nI n), x] [] (laX 51 h (cpF P L 12).1) Q = Q (some (.int (nI (cpF P L 12).2.2.2))) (laX 51 h (cpF P L 12).1) := by
    intro n x
    rw [s10_81]
    simp (disch := first | omega | assumption | exact gt_50 (HMa _) | (simp only [gT_pA, gT_pI, gT_pR]; first | assumption | exact gt_50 (HMa _)) | fail) only [s10_0, s10_1, s10_2, s10_3, s10_4, s10_5, s10_7, s10_8, s10_12, s10_14, s10_17, s10_18, s10_20, s10_23, s10_25, s10_27, s10_30, s10_33, s10_34, s10_37, s10_39, s10_40, s10_41, s10_44, s10_45, s10_46, s10_48, s10_49, s10_50, s10_51, s10_52, s10_55, s10_57, s10_58, s10_59, s10_60, s10_61, s10_63, s10_64, s10_65, s10_66, s10_68, s10_69, s10_71, s10_72, s10_73, s10_75, s10_78, s10_82, ai_31 (HMa _), ai_51 (HMa _), aj_51 (HMa _), gr_50_3 (HMa _), gt_50 (HMa _), am10, isRf_ref, true_and, and_true, aPs_s, aPs_n, b01_0, b01_1, nI_clamp, ix_nI, inb_nI, lt_nI, eq_nI, nn_nI, eq0_nI, pk_mul, nI_add, lt_T, lt_F, if_true, if_false, true_and, and_true, neg1_nI, neg1_lt, neg1_neg, lt_neg1, eqN_F, eq_self, ]
  have loop := for_ds (σ := Value) (F := fun n x => aW (d + 1) 10 10 [.ref 50, .ref 31, .int (nI (cpF P L n).2.2.2), .int (nI (cpF P L n).2.2.1), .int (nI (cpF P L n).2.1), .int (nI n), x] [] (laX 51 h (cpF P L n).1) Q) (R := fun _ => Q (some (.int (nI (cpF P L 12).2.2.2))) (laX 51 h (cpF P L 12).1)) 12 (fun x => by
    rw [s10_10]
    simp (disch := first | omega | assumption | exact gt_50 (HMa _) | (simp only [gT_pA, gT_pI, gT_pR]; first | assumption | exact gt_50 (HMa _)) | fail) only [s10_0, s10_1, s10_2, s10_3, s10_4, s10_5, s10_7, s10_8, s10_12, s10_14, s10_17, s10_18, s10_20, s10_23, s10_25, s10_27, s10_30, s10_33, s10_34, s10_37, s10_39, s10_40, s10_41, s10_44, s10_45, s10_46, s10_48, s10_49, s10_50, s10_51, s10_52, s10_55, s10_57, s10_58, s10_59, s10_60, s10_61, s10_63, s10_64, s10_65, s10_66, s10_68, s10_69, s10_71, s10_72, s10_73, s10_75, s10_78, s10_82, ai_31 (HMa _), ai_51 (HMa _), aj_51 (HMa _), gr_50_3 (HMa _), gt_50 (HMa _), am10, isRf_ref, true_and, and_true, aPs_s, aPs_n, b01_0, b01_1, nI_clamp, ix_nI, inb_nI, lt_nI, eq_nI, nn_nI, eq0_nI, pk_mul, nI_add, lt_T, lt_F, if_true, if_false, true_and, and_true, neg1_nI, neg1_lt, neg1_neg, lt_neg1, eqN_F, eq_self,  Nat.lt_irrefl]
    exact fin _ _) (fun n hn ih x => by
    obtain ⟨h1, h2, h3, h4⟩ := cpF_ok V hB hB3 (n := n) (by omega)
    have eL : ∀ b, b < 12 → gI (laX 51 h (cpF P L n).1) 51 b = oI ((cpF P L n).1 b) := fun b hb => laX_L hb
    have c11' : ∀ Q', aM d 11 [.ref 50, .int (nI (cpF P L n).2.1)] (laX 51 h (cpF P L n).1) Q' = Q' (some (.int (oI (lwB (cpF P L n).1 (cpF P L n).2.1 12)))) (laX 51 h (cpF P L n).1) := fun Q' => c11 (HMa _) eL h1 hB2 h2
    rw [s10_10]
    cases hq : lwB (cpF P L n).1 (cpF P L n).2.1 12 with
    | none =>
      rw [hq] at c11'
      have st := cp_stop hq (12 - n)
      rw [show n + (12 - n) = 12 by omega] at st
      have f2 := fin n (.int (-1))
      simp (disch := first | omega | assumption | exact gt_50 (HMa _) | (simp only [gT_pA, gT_pI, gT_pR]; first | assumption | exact gt_50 (HMa _)) | fail) only [s10_0, s10_1, s10_2, s10_3, s10_4, s10_5, s10_7, s10_8, s10_12, s10_14, s10_17, s10_18, s10_20, s10_23, s10_25, s10_27, s10_30, s10_33, s10_34, s10_37, s10_39, s10_40, s10_41, s10_44, s10_45, s10_46, s10_48, s10_49, s10_50, s10_51, s10_52, s10_55, s10_57, s10_58, s10_59, s10_60, s10_61, s10_63, s10_64, s10_65, s10_66, s10_68, s10_69, s10_71, s10_72, s10_73, s10_75, s10_78, s10_82, ai_31 (HMa _), ai_51 (HMa _), aj_51 (HMa _), gr_50_3 (HMa _), gt_50 (HMa _), am10, isRf_ref, true_and, and_true, aPs_s, aPs_n, b01_0, b01_1, nI_clamp, ix_nI, inb_nI, lt_nI, eq_nI, nn_nI, eq0_nI, pk_mul, nI_add, lt_T, lt_F, if_true, if_false, true_and, and_true, neg1_nI, neg1_lt, neg1_neg, lt_neg1, eqN_F, eq_self,  hn, c11', oI_n, iflt_m1]
      rw [← st]
      exact f2
    | some b =>
      rw [hq] at c11'
      rw [cpF] at ih
      unfold cpS at ih
      rw [hq] at ih
      obtain ⟨hb, _, y, hy⟩ := lwB_ok hq
      have zb := (zS_ok V hb).2
      have hy2 := h1 b hb y hy
      have eb := eL b hb
      rw [hy] at eb
      have ez : ∀ L', gI (laX 51 h L') 31 b = nI (zS P b) := fun _ => hz b hb
      have ew := laX_w (h := h) (a := 51) (L := (cpF P L n).1) (b := b) (v := some (cpF P L n).2.2.1) (x := nI (cpF P L n).2.2.1) hb rfl
      have ihb := ih (.int (nI b))
      by_cases h5 : y = (cpF P L n).2.2.1
      · have e5 : ((cpF P L n).1 b == some (cpF P L n).2.2.1) = true := by rw [hy, h5]; exact beq_self_eq_true _
        have e6 : updL (cpF P L n).1 b (some (cpF P L n).2.2.1) = (cpF P L n).1 := by rw [← h5, ← hy]; exact updL_self
        simp only [e5, e6, if_true, Nat.add_zero] at ihb
        simp (disch := first | omega | assumption | exact gt_50 (HMa _) | (simp only [gT_pA, gT_pI, gT_pR]; first | assumption | exact gt_50 (HMa _)) | fail) only [s10_0, s10_1, s10_2, s10_3, s10_4, s10_5, s10_7, s10_8, s10_12, s10_14, s10_17, s10_18, s10_20, s10_23, s10_25, s10_27, s10_30, s10_33, s10_34, s10_37, s10_39, s10_40, s10_41, s10_44, s10_45, s10_46, s10_48, s10_49, s10_50, s10_51, s10_52, s10_55, s10_57, s10_58, s10_59, s10_60, s10_61, s10_63, s10_64, s10_65, s10_66, s10_68, s10_69, s10_71, s10_72, s10_73, s10_75, s10_78, s10_82, ai_31 (HMa _), ai_51 (HMa _), aj_51 (HMa _), gr_50_3 (HMa _), gt_50 (HMa _), am10, isRf_ref, true_and, and_true, aPs_s, aPs_n, b01_0, b01_1, nI_clamp, ix_nI, inb_nI, lt_nI, eq_nI, nn_nI, eq0_nI, pk_mul, nI_add, lt_T, lt_F, if_true, if_false, true_and, and_true, neg1_nI, neg1_lt, neg1_neg, lt_neg1, eqN_F, eq_self,  hn, c11', oI_s, nn_nI, hb, eb, h5, ez, nI_bit, ihb]
      · have e5 : ((cpF P L n).1 b == some (cpF P L n).2.2.1) = false := by rw [hy]; simpa using h5
        simp only [e5, if_false, Bool.false_eq_true] at ihb
        simp (disch := first | omega | assumption | exact gt_50 (HMa _) | (simp only [gT_pA, gT_pI, gT_pR]; first | assumption | exact gt_50 (HMa _)) | fail) only [s10_0, s10_1, s10_2, s10_3, s10_4, s10_5, s10_7, s10_8, s10_12, s10_14, s10_17, s10_18, s10_20, s10_23, s10_25, s10_27, s10_30, s10_33, s10_34, s10_37, s10_39, s10_40, s10_41, s10_44, s10_45, s10_46, s10_48, s10_49, s10_50, s10_51, s10_52, s10_55, s10_57, s10_58, s10_59, s10_60, s10_61, s10_63, s10_64, s10_65, s10_66, s10_68, s10_69, s10_71, s10_72, s10_73, s10_75, s10_78, s10_82, ai_31 (HMa _), ai_51 (HMa _), aj_51 (HMa _), gr_50_3 (HMa _), gt_50 (HMa _), am10, isRf_ref, true_and, and_true, aPs_s, aPs_n, b01_0, b01_1, nI_clamp, ix_nI, inb_nI, lt_nI, eq_nI, nn_nI, eq0_nI, pk_mul, nI_add, lt_T, lt_F, if_true, if_false, true_and, and_true, neg1_nI, neg1_lt, neg1_neg, lt_neg1, eqN_F, eq_self,  hn, c11', oI_s, nn_nI, hb, eb, h5, ez, ew, nI_bit, ihb])
  have l0 := loop 0 (Nat.zero_le _) (.retAddr 0)
  rw [show (cpF P L 0).1 = L from rfl, laX_start hL] at l0
  simp (disch := first | omega | assumption | exact gt_50 H | (simp only [gT_pA, gT_pI, gT_pR]; first | assumption | exact gt_50 H) | fail) only [s10_0, s10_1, s10_2, s10_3, s10_4, s10_5, s10_7, s10_8, s10_12, s10_14, s10_17, s10_18, s10_20, s10_23, s10_25, s10_27, s10_30, s10_33, s10_34, s10_37, s10_39, s10_40, s10_41, s10_44, s10_45, s10_46, s10_48, s10_49, s10_50, s10_51, s10_52, s10_55, s10_57, s10_58, s10_59, s10_60, s10_61, s10_63, s10_64, s10_65, s10_66, s10_68, s10_69, s10_71, s10_72, s10_73, s10_75, s10_78, s10_82, ai_31 H, ai_51 H, aj_51 H, gr_50_3 H, gt_50 H, am10, isRf_ref, true_and, and_true, aPs_s, aPs_n, b01_0, b01_1, nI_clamp, ix_nI, inb_nI, lt_nI, eq_nI, nn_nI, eq0_nI, pk_mul, nI_add, lt_T, lt_F, if_true, if_false, true_and, and_true, neg1_nI, neg1_lt, neg1_neg, lt_neg1, eqN_F, eq_self, ]
  exact l0
set_option maxHeartbeats 4000000 in
theorem c12 (H : KC h) {P : Nat → Nat → Int32} (V : okP P) (hz : ∀ b, b < 12 → gI h 31 b = nI (zS P b)) {L : Nat → Option Nat} {B c : Nat} (hL : ∀ b, b < 12 → gI h 51 b = oI (L b)) (hB : LB P L B) (hB2 : B < 2 ^ 30) (hc : c < 100000) : aM d 12 [.ref 50, .int (nI c), .ref 31] h Q = Q (some (.int (oI (fst1 (hoB P L c) 12 0)))) h := by
  have loop := for_dn (F := fun b => aW d 12 2 [.ref 50, .int (nI c), .ref 31, .int (nI b)] [] h Q) (R := fun b => Q (some (.int (oI (fst1 (hoB P L c) (12 - b) b)))) h) 12 (by
    rw [s12_2, fst1_end]
    simp (disch := first | omega | assumption | exact gt_50 H | (simp only [gT_pA, gT_pI, gT_pR]; first | assumption | exact gt_50 H) | fail) only [s12_0, s12_1, s12_3, s12_5, s12_8, s12_9, s12_12, s12_13, s12_14, s12_17, s12_18, s12_21, s12_22, s12_23, s12_24, s12_27, s12_28, s12_29, s12_32, s12_33, s12_34, s12_35, s12_36, s12_37, s12_38, s12_41, s12_42, s12_43, s12_46, s12_49, s12_50, ai_31 H, ai_51 H, gr_50_3 H, gt_50 H, am12, isRf_ref, true_and, and_true, aPs_s, aPs_n, b01_0, b01_1, nI_clamp, ix_nI, inb_nI, lt_nI, eq_nI, nn_nI, eq0_nI, pk_mul, nI_add, lt_T, lt_F, if_true, if_false, true_and, and_true, neg1_nI, neg1_lt, neg1_neg, lt_neg1, eqN_F, eq_self,  Nat.lt_irrefl, oI_n]) (fun b hb ih => by
    have hb2 := hL b hb
    have hzb := hz b hb
    have zb := (zS_ok V hb).2
    rw [s12_2, fst1_step hb]
    unfold hoB at ih ⊢
    cases hx : L b with
    | none =>
      rw [hx] at hb2
      simp (disch := first | omega | assumption | exact gt_50 H | (simp only [gT_pA, gT_pI, gT_pR]; first | assumption | exact gt_50 H) | fail) only [s12_0, s12_1, s12_3, s12_5, s12_8, s12_9, s12_12, s12_13, s12_14, s12_17, s12_18, s12_21, s12_22, s12_23, s12_24, s12_27, s12_28, s12_29, s12_32, s12_33, s12_34, s12_35, s12_36, s12_37, s12_38, s12_41, s12_42, s12_43, s12_46, s12_49, s12_50, ai_31 H, ai_51 H, gr_50_3 H, gt_50 H, am12, isRf_ref, true_and, and_true, aPs_s, aPs_n, b01_0, b01_1, nI_clamp, ix_nI, inb_nI, lt_nI, eq_nI, nn_nI, eq0_nI, pk_mul, nI_add, lt_T, lt_F, if_true, if_false, true_and, and_true, neg1_nI, neg1_lt, neg1_neg, lt_neg1, eqN_F, eq_self,  hb, hb2, oI_n, iflt_m1, ih, Bool.not_false, Bool.not_true, Bool.true_and, Bool.false_and, Bool.and_true, Bool.and_false, Bool.or_true, Bool.or_false, Bool.true_or, Bool.false_or, Bool.true_eq_false, Bool.false_eq_true, if_true, if_false, Option.isSome_some, Option.isSome_none, Option.isNone_some, Option.isNone_none, zB_t, zB_f, nI1_0, nI0_0]
    | some x =>
      rw [hx] at hb2
      have h1 := hB b hb x hx
      by_cases h2 : c < x
      · simp (disch := first | omega | assumption | exact gt_50 H | (simp only [gT_pA, gT_pI, gT_pR]; first | assumption | exact gt_50 H) | fail) only [s12_0, s12_1, s12_3, s12_5, s12_8, s12_9, s12_12, s12_13, s12_14, s12_17, s12_18, s12_21, s12_22, s12_23, s12_24, s12_27, s12_28, s12_29, s12_32, s12_33, s12_34, s12_35, s12_36, s12_37, s12_38, s12_41, s12_42, s12_43, s12_46, s12_49, s12_50, ai_31 H, ai_51 H, gr_50_3 H, gt_50 H, am12, isRf_ref, true_and, and_true, aPs_s, aPs_n, b01_0, b01_1, nI_clamp, ix_nI, inb_nI, lt_nI, eq_nI, nn_nI, eq0_nI, pk_mul, nI_add, lt_T, lt_F, if_true, if_false, true_and, and_true, neg1_nI, neg1_lt, neg1_neg, lt_neg1, eqN_F, eq_self,  hb, hb2, oI_s, nn_nI, h2, ih, decide_eq_false (show ¬ x ≤ c by omega), Bool.not_false, Bool.not_true, Bool.true_and, Bool.false_and, Bool.and_true, Bool.and_false, Bool.or_true, Bool.or_false, Bool.true_or, Bool.false_or, Bool.true_eq_false, Bool.false_eq_true, if_true, if_false, Option.isSome_some, Option.isSome_none, Option.isNone_some, Option.isNone_none, zB_t, zB_f, nI1_0, nI0_0]
      · have e1 : nI c - nI x = nI (c - x) := pk_sub (by omega)
        by_cases h3 : c < x + zS P b
        · simp (disch := first | omega | assumption | exact gt_50 H | (simp only [gT_pA, gT_pI, gT_pR]; first | assumption | exact gt_50 H) | fail) only [s12_0, s12_1, s12_3, s12_5, s12_8, s12_9, s12_12, s12_13, s12_14, s12_17, s12_18, s12_21, s12_22, s12_23, s12_24, s12_27, s12_28, s12_29, s12_32, s12_33, s12_34, s12_35, s12_36, s12_37, s12_38, s12_41, s12_42, s12_43, s12_46, s12_49, s12_50, ai_31 H, ai_51 H, gr_50_3 H, gt_50 H, am12, isRf_ref, true_and, and_true, aPs_s, aPs_n, b01_0, b01_1, nI_clamp, ix_nI, inb_nI, lt_nI, eq_nI, nn_nI, eq0_nI, pk_mul, nI_add, lt_T, lt_F, if_true, if_false, true_and, and_true, neg1_nI, neg1_lt, neg1_neg, lt_neg1, eqN_F, eq_self,  hb, hb2, oI_s, nn_nI, h2, e1, hzb, show c - x < zS P b by omega, h3, ih, decide_eq_true (show x ≤ c by omega), decide_true, Bool.not_false, Bool.not_true, Bool.true_and, Bool.false_and, Bool.and_true, Bool.and_false, Bool.or_true, Bool.or_false, Bool.true_or, Bool.false_or, Bool.true_eq_false, Bool.false_eq_true, if_true, if_false, Option.isSome_some, Option.isSome_none, Option.isNone_some, Option.isNone_none, zB_t, zB_f, nI1_0, nI0_0]
        · simp (disch := first | omega | assumption | exact gt_50 H | (simp only [gT_pA, gT_pI, gT_pR]; first | assumption | exact gt_50 H) | fail) only [s12_0, s12_1, s12_3, s12_5, s12_8, s12_9, s12_12, s12_13, s12_14, s12_17, s12_18, s12_21, s12_22, s12_23, s12_24, s12_27, s12_28, s12_29, s12_32, s12_33, s12_34, s12_35, s12_36, s12_37, s12_38, s12_41, s12_42, s12_43, s12_46, s12_49, s12_50, ai_31 H, ai_51 H, gr_50_3 H, gt_50 H, am12, isRf_ref, true_and, and_true, aPs_s, aPs_n, b01_0, b01_1, nI_clamp, ix_nI, inb_nI, lt_nI, eq_nI, nn_nI, eq0_nI, pk_mul, nI_add, lt_T, lt_F, if_true, if_false, true_and, and_true, neg1_nI, neg1_lt, neg1_neg, lt_neg1, eqN_F, eq_self,  hb, hb2, oI_s, nn_nI, h2, e1, hzb, show ¬ c - x < zS P b by omega, h3, ih, decide_eq_true (show x ≤ c by omega), decide_false, Bool.not_false, Bool.not_true, Bool.true_and, Bool.false_and, Bool.and_true, Bool.and_false, Bool.or_true, Bool.or_false, Bool.true_or, Bool.false_or, Bool.true_eq_false, Bool.false_eq_true, if_true, if_false, Option.isSome_some, Option.isSome_none, Option.isNone_some, Option.isNone_none, zB_t, zB_f, nI1_0, nI0_0])
  simp (disch := first | omega | assumption | exact gt_50 H | (simp only [gT_pA, gT_pI, gT_pR]; first | assumption | exact gt_50 H) | fail) only [s12_0, s12_1, s12_3, s12_5, s12_8, s12_9, s12_12, s12_13, s12_14, s12_17, s12_18, s12_21, s12_22, s12_23, s12_24, s12_27, s12_28, s12_29, s12_32, s12_33, s12_34, s12_35, s12_36, s12_37, s12_38, s12_41, s12_42, s12_43, s12_46, s12_49, s12_50, ai_31 H, ai_51 H, gr_50_3 H, gt_50 H, am12, isRf_ref, true_and, and_true, aPs_s, aPs_n, b01_0, b01_1, nI_clamp, ix_nI, inb_nI, lt_nI, eq_nI, nn_nI, eq0_nI, pk_mul, nI_add, lt_T, lt_F, if_true, if_false, true_and, and_true, neg1_nI, neg1_lt, neg1_neg, lt_neg1, eqN_F, eq_self, ]
  exact loop 0 (Nat.zero_le _)
def emF (h : abH) : Nat → Int32 := upd (upd (gI h 50) 0 (nI 0)) 1 (nI 0)
def emH (h : abH) : abH := pA (pA h 50 (emF h)) 51 (pre (fun _ => -1) 12 (gI h 51))
set_option maxHeartbeats 4000000 in
theorem c1 (H : KC h) : aM d 1 [.ref 50] h Q = Q none (emH h) := by
  have loop := for_0 (F := fun b => aW d 1 12 [.ref 50, .int (nI b)] [] (pA (pA h 50 (emF h)) 51 (pre (fun _ => -1) b (gI h 51))) Q) (R := Q none (emH h)) 12 (by
    rw [s1_12]
    simp (disch := first | omega | assumption | exact gt_50 H | (simp only [gT_pA, gT_pI, gT_pR]; first | assumption | exact gt_50 H) | fail) only [s1_0, s1_1, s1_2, s1_5, s1_6, s1_7, s1_10, s1_11, s1_13, s1_15, s1_18, s1_19, s1_22, s1_23, s1_24, s1_25, s1_28, s1_31, aj_51 H, gr_50_3 H, gt_50 H, am1, isRf_ref, true_and, and_true, aPs_s, aPs_n, b01_0, b01_1, nI_clamp, ix_nI, inb_nI, lt_nI, eq_nI, nn_nI, eq0_nI, pk_mul, nI_add, lt_T, lt_F, if_true, if_false, true_and, and_true, neg1_nI, neg1_lt, neg1_neg, lt_neg1, eqN_F, eq_self,  Nat.lt_irrefl]
    rfl) (fun b hb => by
    have HM2 : KC (pA (pA h 50 (emF h)) 51 (pre (fun _ => -1) b (gI h 51))) := H
    have up := pre_pI (h := pA h 50 (emF h)) (o := 51) (X := fun _ => -1) (k := b) (G := gI h 51) (x := -1) rfl
    rw [s1_12]
    simp (disch := first | omega | assumption | exact gt_50 HM2 | (simp only [gT_pA, gT_pI, gT_pR]; first | assumption | exact gt_50 HM2) | fail) only [s1_0, s1_1, s1_2, s1_5, s1_6, s1_7, s1_10, s1_11, s1_13, s1_15, s1_18, s1_19, s1_22, s1_23, s1_24, s1_25, s1_28, s1_31, aj_51 HM2, gr_50_3 HM2, gt_50 HM2, am1, isRf_ref, true_and, and_true, aPs_s, aPs_n, b01_0, b01_1, nI_clamp, ix_nI, inb_nI, lt_nI, eq_nI, nn_nI, eq0_nI, pk_mul, nI_add, lt_T, lt_F, if_true, if_false, true_and, and_true, neg1_nI, neg1_lt, neg1_neg, lt_neg1, eqN_F, eq_self,  hb, up])
  have e0 : pA (pA h 50 (emF h)) 51 (pre (fun _ => -1) 0 (gI h 51)) = pA h 50 (emF h) := by rw [pre_0]; exact pA_self (h := pA h 50 (emF h)) (o := 51)
  rw [e0] at loop
  simp (disch := first | omega | assumption | exact gt_50 H | (simp only [gT_pA, gT_pI, gT_pR]; first | assumption | exact gt_50 H) | fail) only [s1_0, s1_1, s1_2, s1_5, s1_6, s1_7, s1_10, s1_11, s1_13, s1_15, s1_18, s1_19, s1_22, s1_23, s1_24, s1_25, s1_28, s1_31, aj_51 H, gr_50_3 H, gt_50 H, am1, isRf_ref, true_and, and_true, aPs_s, aPs_n, b01_0, b01_1, nI_clamp, ix_nI, inb_nI, lt_nI, eq_nI, nn_nI, eq0_nI, pk_mul, nI_add, lt_T, lt_F, if_true, if_false, true_and, and_true, neg1_nI, neg1_lt, neg1_neg, lt_neg1, eqN_F, eq_self,  pI_def, pA_pA, gI_eq, gR_pA, aJ_pA]
  exact loop
theorem cpy_pre {f g : Nat → Int32} {n : Nat} : va_cpy f g 0 0 n = pre f n g := by
  funext k
  unfold va_cpy pre
  by_cases h : k < n
  · rw [if_pos (by omega), if_pos h, Nat.zero_add, Nat.sub_zero]
  · rw [if_neg (by omega), if_neg h]
/-- one Floor becomes another one: (f, a, w) by (g, b, u) -/
def tfF (h : abH) (f g : Nat) : Nat → Int32 := upd (upd (upd (gI h f) 0 (gI h g 0)) 1 (gI h g 1)) 2 (gI h g 2)
def tfH (h : abH) (f a w g b u : Nat) : abH := pA (pA (pA h f (tfF h f g)) a (pre (gI h b) 12 (gI h a))) w (pre (gI h u) 4 (gI h w))
theorem cpy_ok {n a b : Nat} (hn : n < 2 ^ 31) (h1 : n ≤ a) (h2 : n ≤ b) : ¬ nI 0 < 0 ∧ ¬ nI 0 < 0 ∧ ¬ nI n < 0 ∧ (nI 0).toNatClampNeg + (nI n).toNatClampNeg ≤ a ∧ (nI 0).toNatClampNeg + (nI n).toNatClampNeg ≤ b := by
  rw [nI_clamp hn, nI_clamp (by decide), nn_nI hn, nn_nI (by decide)]
  simp
  exact ⟨h1, h2⟩
set_option maxHeartbeats 4000000 in
theorem c2k (H : KC h) : aM (d + 1) 2 [.ref 53, .ref 50] h Q = Q none (tfH h 53 54 55 50 51 52) := by
  have H1 : KC (pA h 53 (tfF h 53 50)) := H
  have H2 : KC (pA (pA h 53 (tfF h 53 50)) 54 (pre (gI h 51) 12 (gI h 54))) := H
  have e1 : pA (pA h 53 (tfF h 53 50)) 54 (va_cpy (gI (pA h 53 (tfF h 53 50)) 51) (gI (pA h 53 (tfF h 53 50)) 54) (nI 0).toNatClampNeg (nI 0).toNatClampNeg (nI 12).toNatClampNeg) = pA (pA h 53 (tfF h 53 50)) 54 (pre (gI h 51) 12 (gI h 54)) := by
    rw [nI_clamp (by decide), nI_clamp (by decide), cpy_pre]
    rfl
  have e2 : pA (pA (pA h 53 (tfF h 53 50)) 54 (pre (gI h 51) 12 (gI h 54))) 55 (va_cpy (gI (pA (pA h 53 (tfF h 53 50)) 54 (pre (gI h 51) 12 (gI h 54))) 52) (gI (pA (pA h 53 (tfF h 53 50)) 54 (pre (gI h 51) 12 (gI h 54))) 55) (nI 0).toNatClampNeg (nI 0).toNatClampNeg (nI 4).toNatClampNeg) = tfH h 53 54 55 50 51 52 := by
    rw [nI_clamp (by decide), nI_clamp (by decide), cpy_pre]
    rfl
  have f0 : pA h 53 (upd (upd (upd (gI h 53) 0 (gI h 50 0)) 1 (gI h 50 1)) 2 (gI h 50 2)) = pA h 53 (tfF h 53 50) := rfl
  simp (disch := first | omega | assumption | exact gt_50 H | exact gt_53 H | (simp only [gT_pA, gT_pI, gT_pR]; first | assumption | exact gt_50 H | exact gt_53 H) | fail) only [s2_0, s2_1, s2_2, s2_5, s2_8, s2_9, s2_10, s2_13, s2_16, s2_17, s2_18, s2_21, s2_25, s2_28, s2_29, s2_30, s2_33, s2_34, s2_40, s2_43, s2_44, s2_45, s2_48, s2_49, s2_53, gr_50_3 H, gr_50_4 H, gr_53_3 H, gr_53_4 H, gt_50 H, gt_53 H, am2, isRf_ref, true_and, and_true, aPs_s, aPs_n, b01_0, b01_1, nI_clamp, ix_nI, inb_nI, lt_nI, eq_nI, nn_nI, eq0_nI, pk_mul, nI_add, lt_T, lt_F, if_true, if_false, true_and, and_true, neg1_nI, neg1_lt, neg1_neg, lt_neg1, eqN_F, eq_self,  pI_def, pA_pA, gI_eq, gI_ne (show (50 : Nat) ≠ 53 by decide), f0]
  rw [s2_24]
  simp (disch := first | omega | assumption | exact gt_50 H1 | exact gt_53 H1 | (simp only [gT_pA, gT_pI, gT_pR]; first | assumption | exact gt_50 H1 | exact gt_53 H1) | fail) only [s2_0, s2_1, s2_2, s2_5, s2_8, s2_9, s2_10, s2_13, s2_16, s2_17, s2_18, s2_21, s2_24, s2_25, s2_28, s2_29, s2_30, s2_33, s2_34, s2_40, s2_43, s2_44, s2_45, s2_48, s2_49, s2_53, gr_50_3 H1, gr_50_4 H1, gr_53_3 H1, gr_53_4 H1, gt_50 H1, gt_53 H1, am2, isRf_ref, true_and, and_true, aPs_s, aPs_n, b01_0, b01_1, nI_clamp, ix_nI, inb_nI, lt_nI, eq_nI, nn_nI, eq0_nI, pk_mul, nI_add, lt_T, lt_F, if_true, if_false, true_and, and_true, neg1_nI, neg1_lt, neg1_neg, lt_neg1, eqN_F, eq_self, ]
  rw [s2_36 (gt_51 H1) (gt_54 H1) (cpy_ok (by decide) (by decide) (by decide)), e1, s2_39]
  simp (disch := first | omega | assumption | exact gt_50 H2 | exact gt_53 H2 | (simp only [gT_pA, gT_pI, gT_pR]; first | assumption | exact gt_50 H2 | exact gt_53 H2) | fail) only [s2_0, s2_1, s2_2, s2_5, s2_8, s2_9, s2_10, s2_13, s2_16, s2_17, s2_18, s2_21, s2_24, s2_25, s2_28, s2_29, s2_30, s2_33, s2_34, s2_36, s2_39, s2_40, s2_43, s2_44, s2_45, s2_48, s2_49, s2_53, gr_50_3 H2, gr_50_4 H2, gr_53_3 H2, gr_53_4 H2, gt_50 H2, gt_53 H2, am2, isRf_ref, true_and, and_true, aPs_s, aPs_n, b01_0, b01_1, nI_clamp, ix_nI, inb_nI, lt_nI, eq_nI, nn_nI, eq0_nI, pk_mul, nI_add, lt_T, lt_F, if_true, if_false, true_and, and_true, neg1_nI, neg1_lt, neg1_neg, lt_neg1, eqN_F, eq_self, ]
  rw [s2_50 (gt_52 H2) (gt_55 H2) (cpy_ok (by decide) (by decide) (by decide)), e2]
  simp (disch := first | omega | assumption | exact gt_50 H | exact gt_53 H | (simp only [gT_pA, gT_pI, gT_pR]; first | assumption | exact gt_50 H | exact gt_53 H) | fail) only [s2_0, s2_1, s2_2, s2_5, s2_8, s2_9, s2_10, s2_13, s2_16, s2_17, s2_18, s2_21, s2_24, s2_25, s2_28, s2_29, s2_30, s2_33, s2_34, s2_36, s2_39, s2_40, s2_43, s2_44, s2_45, s2_48, s2_49, s2_50, s2_53, gr_50_3 H, gr_50_4 H, gr_53_3 H, gr_53_4 H, gt_50 H, gt_53 H, am2, isRf_ref, true_and, and_true, aPs_s, aPs_n, b01_0, b01_1, nI_clamp, ix_nI, inb_nI, lt_nI, eq_nI, nn_nI, eq0_nI, pk_mul, nI_add, lt_T, lt_F, if_true, if_false, true_and, and_true, neg1_nI, neg1_lt, neg1_neg, lt_neg1, eqN_F, eq_self, ]
set_option maxHeartbeats 4000000 in
theorem c2b (H : KC h) : aM (d + 1) 2 [.ref 50, .ref 53] h Q = Q none (tfH h 50 51 52 53 54 55) := by
  have H1 : KC (pA h 50 (tfF h 50 53)) := H
  have H2 : KC (pA (pA h 50 (tfF h 50 53)) 51 (pre (gI h 54) 12 (gI h 51))) := H
  have e1 : pA (pA h 50 (tfF h 50 53)) 51 (va_cpy (gI (pA h 50 (tfF h 50 53)) 54) (gI (pA h 50 (tfF h 50 53)) 51) (nI 0).toNatClampNeg (nI 0).toNatClampNeg (nI 12).toNatClampNeg) = pA (pA h 50 (tfF h 50 53)) 51 (pre (gI h 54) 12 (gI h 51)) := by
    rw [nI_clamp (by decide), nI_clamp (by decide), cpy_pre]
    rfl
  have e2 : pA (pA (pA h 50 (tfF h 50 53)) 51 (pre (gI h 54) 12 (gI h 51))) 52 (va_cpy (gI (pA (pA h 50 (tfF h 50 53)) 51 (pre (gI h 54) 12 (gI h 51))) 55) (gI (pA (pA h 50 (tfF h 50 53)) 51 (pre (gI h 54) 12 (gI h 51))) 52) (nI 0).toNatClampNeg (nI 0).toNatClampNeg (nI 4).toNatClampNeg) = tfH h 50 51 52 53 54 55 := by
    rw [nI_clamp (by decide), nI_clamp (by decide), cpy_pre]
    rfl
  have f0 : pA h 50 (upd (upd (upd (gI h 50) 0 (gI h 53 0)) 1 (gI h 53 1)) 2 (gI h 53 2)) = pA h 50 (tfF h 50 53) := rfl
  simp (disch := first | omega | assumption | exact gt_50 H | exact gt_53 H | (simp only [gT_pA, gT_pI, gT_pR]; first | assumption | exact gt_50 H | exact gt_53 H) | fail) only [s2_0, s2_1, s2_2, s2_5, s2_8, s2_9, s2_10, s2_13, s2_16, s2_17, s2_18, s2_21, s2_25, s2_28, s2_29, s2_30, s2_33, s2_34, s2_40, s2_43, s2_44, s2_45, s2_48, s2_49, s2_53, gr_50_3 H, gr_50_4 H, gr_53_3 H, gr_53_4 H, gt_50 H, gt_53 H, am2, isRf_ref, true_and, and_true, aPs_s, aPs_n, b01_0, b01_1, nI_clamp, ix_nI, inb_nI, lt_nI, eq_nI, nn_nI, eq0_nI, pk_mul, nI_add, lt_T, lt_F, if_true, if_false, true_and, and_true, neg1_nI, neg1_lt, neg1_neg, lt_neg1, eqN_F, eq_self,  pI_def, pA_pA, gI_eq, gI_ne (show (53 : Nat) ≠ 50 by decide), f0]
  rw [s2_24]
  simp (disch := first | omega | assumption | exact gt_50 H1 | exact gt_53 H1 | (simp only [gT_pA, gT_pI, gT_pR]; first | assumption | exact gt_50 H1 | exact gt_53 H1) | fail) only [s2_0, s2_1, s2_2, s2_5, s2_8, s2_9, s2_10, s2_13, s2_16, s2_17, s2_18, s2_21, s2_24, s2_25, s2_28, s2_29, s2_30, s2_33, s2_34, s2_40, s2_43, s2_44, s2_45, s2_48, s2_49, s2_53, gr_50_3 H1, gr_50_4 H1, gr_53_3 H1, gr_53_4 H1, gt_50 H1, gt_53 H1, am2, isRf_ref, true_and, and_true, aPs_s, aPs_n, b01_0, b01_1, nI_clamp, ix_nI, inb_nI, lt_nI, eq_nI, nn_nI, eq0_nI, pk_mul, nI_add, lt_T, lt_F, if_true, if_false, true_and, and_true, neg1_nI, neg1_lt, neg1_neg, lt_neg1, eqN_F, eq_self, ]
  rw [s2_36 (gt_54 H1) (gt_51 H1) (cpy_ok (by decide) (by decide) (by decide)), e1, s2_39]
  simp (disch := first | omega | assumption | exact gt_50 H2 | exact gt_53 H2 | (simp only [gT_pA, gT_pI, gT_pR]; first | assumption | exact gt_50 H2 | exact gt_53 H2) | fail) only [s2_0, s2_1, s2_2, s2_5, s2_8, s2_9, s2_10, s2_13, s2_16, s2_17, s2_18, s2_21, s2_24, s2_25, s2_28, s2_29, s2_30, s2_33, s2_34, s2_36, s2_39, s2_40, s2_43, s2_44, s2_45, s2_48, s2_49, s2_53, gr_50_3 H2, gr_50_4 H2, gr_53_3 H2, gr_53_4 H2, gt_50 H2, gt_53 H2, am2, isRf_ref, true_and, and_true, aPs_s, aPs_n, b01_0, b01_1, nI_clamp, ix_nI, inb_nI, lt_nI, eq_nI, nn_nI, eq0_nI, pk_mul, nI_add, lt_T, lt_F, if_true, if_false, true_and, and_true, neg1_nI, neg1_lt, neg1_neg, lt_neg1, eqN_F, eq_self, ]
  rw [s2_50 (gt_55 H2) (gt_52 H2) (cpy_ok (by decide) (by decide) (by decide)), e2]
  simp (disch := first | omega | assumption | exact gt_50 H | exact gt_53 H | (simp only [gT_pA, gT_pI, gT_pR]; first | assumption | exact gt_50 H | exact gt_53 H) | fail) only [s2_0, s2_1, s2_2, s2_5, s2_8, s2_9, s2_10, s2_13, s2_16, s2_17, s2_18, s2_21, s2_24, s2_25, s2_28, s2_29, s2_30, s2_33, s2_34, s2_36, s2_39, s2_40, s2_43, s2_44, s2_45, s2_48, s2_49, s2_50, s2_53, gr_50_3 H, gr_50_4 H, gr_53_3 H, gr_53_4 H, gt_50 H, gt_53 H, am2, isRf_ref, true_and, and_true, aPs_s, aPs_n, b01_0, b01_1, nI_clamp, ix_nI, inb_nI, lt_nI, eq_nI, nn_nI, eq0_nI, pk_mul, nI_add, lt_T, lt_F, if_true, if_false, true_and, and_true, neg1_nI, neg1_lt, neg1_neg, lt_neg1, eqN_F, eq_self, ]
end C11
