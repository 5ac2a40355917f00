/-! THE CLASS: Reader, a STEP, a STATEMENT, a text -/
section C21
variable {d q : Nat} {h : abH} {Q : Option Value → abH → Prop}
set_option maxHeartbeats 8000000 in
theorem c62 (H : KC h) (hp : q = 5 ∨ q = 17) (hi : gR h 3 4 = .ref q) {c : Nat → Nat} {T a : Nat} (C : tpC h c T) (ha : a < T) (hk6 : c a - 48 < 6) {A G : Nat → Nat → Int32} (W : okW A) (R : RG G A (nS A) (nS A)) : ∃ G', ((fnE c T (stp c T a A)).1 = true → okW (fnE c T (stp c T a A)).2.2 ∧ RG G' (fnE c T (stp c T a A)).2.2 (nS (fnE c T (stp c T a A)).2.2) (nS (fnE c T (stp c T a A)).2.2)) ∧ ∀ Q, aM (d + 3) 62 [.ref 3, .int (nI (c a - 48))] (rx h q c T a G) Q = Q (some (.int (zB (fnE c T (stp c T a A)).1))) (rx h q c T (fnE c T (stp c T a A)).2.1 G') := by
  have HMa : ∀ a G, KC (rx h q c T a G) := fun _ _ => H
  have r34 : ∀ a G, gR (rx h q c T a G) 3 4 = .ref q := fun _ _ => hi
  have e0 : G 0 6 = nI (nS A) := R.1
  have hS10 := W.s10.1
  by_cases g : nS A = 10
  · have e1 : stp c T a A = (false, a, A) := by unfold stp; rw [if_pos g]
    rw [e1, fnE_f]
    refine ⟨G, fun q => (by cases q), fun Q => ?_⟩
    have h1 : ¬ nS A < 10 := by omega
    simp (disch := first | omega | assumption | exact gtP (HMa _ _) hp | exact gt_3 (HMa _ _) | (simp only [gT_pA, gT_pI, gT_pR]; first | assumption | exact gtP (HMa _ _) hp | exact gt_3 (HMa _ _)) | fail) only [s62_0, s62_1, s62_4, s62_7, s62_9, s62_12, s62_13, s62_14, s62_15, s62_16, s62_19, s62_20, s62_21, s62_24, s62_25, s62_28, s62_29, s62_32, s62_33, s62_34, s62_35, s62_38, s62_39, s62_41, s62_44, s62_47, s62_48, s62_49, s62_52, s62_55, s62_56, s62_57, s62_60, s62_63, s62_64, s62_66, s62_69, s62_72, s62_73, s62_76, s62_77, gtP (HMa _ _) hp, gt_3 (HMa _ _), am62, isRf_ref, true_and, and_true, aPs_s, aPs_n, b01_0, b01_1, nI_clamp, ix_nI, inb_nI, lt_nI, eq_nI, nn_nI, eq0_nI, pk_mul, nI_add, lt_T, lt_F, if_true, if_false, true_and, and_true, neg1_nI, neg1_lt, neg1_neg, lt_neg1, eqN_F, eq_self,  r34, rx_r0, e0, h1, zB_f]
  · have hs : nS A < 10 := by omega
    generalize hsA : nS A = s at *
    have e1 : stp c T a A = stW c T s (stA c T a A).1 (stA c T a A).2.1 (upA (stA c T a A).2.2 76 s (nI (stA c T a A).1)) := by unfold stp; rw [if_neg (by omega), hsA]
    rw [e1]
    have R1 := RG_add (k := nI (c a - 48)) R
    have W1 : okW (upA A 73 s (nI (c a - 48))) := by
      refine okW_cg W ⟨fun c hc => ?_, fun t ht => ?_⟩ ?_ (fun j hj => ?_)
      · simp (disch := omega) only [upA_no]
        exact ⟨trivial, trivial, trivial, fun _ _ => ⟨trivial, trivial⟩⟩
      · simp (disch := omega) only [upA_no]
        exact ⟨trivial, trivial, trivial, trivial, fun _ _ => trivial⟩
      · simp (disch := omega) only [upA_no]
      · simp (disch := omega) only [upA_no]
        exact W.1.2.2.2 j hj
    have hS1 : nS (upA A 73 s (nI (c a - 48))) = s := by rw [nS_up (by decide)]; exact hsA
    obtain ⟨G2, k1, k2, k3, k4, k5, k6⟩ := c63_2 (d := d + 1) (l3 := .retAddr 0) H hp hi C hs (m := 4) (n := 0) (a := a + 1) rfl ha W1 hS1 (fun k hk => by omega) R1
    have hle := rrN_le (c := c) (T := T) (s := s) (m := 4) (n := 0) (a := a + 1) (A := upA A 73 s (nI (c a - 48))) ha
    have eA : rrN c T s 4 0 (a + 1) (upA A 73 s (nI (c a - 48))) = stA c T a A := by unfold stA; rw [hsA]
    rw [eA] at k1 k2 k3 k4 k5 k6 hle
    have l73 : bn ((stA c T a A).2.2 73 s) 6 := by rw [k3, upA_at]; exact bn_nI hk6 (by decide)
    generalize hn : (stA c T a A).1 = n at *
    generalize ha2 : (stA c T a A).2.1 = a2 at *
    generalize (stA c T a A).2.2 = A2 at *
    have hn4 : n ≤ 4 := by omega
    have W2 : okW (upA A2 76 s (nI n)) := by
      refine okW_cg k1 ⟨fun c hc => ?_, fun t ht => ?_⟩ ?_ (fun j hj => ?_)
      · simp (disch := omega) only [upA_no]
        exact ⟨trivial, trivial, trivial, fun _ _ => ⟨trivial, trivial⟩⟩
      · simp (disch := omega) only [upA_no]
        exact ⟨trivial, trivial, trivial, trivial, fun _ _ => trivial⟩
      · simp (disch := omega) only [upA_no]
      · simp (disch := omega) only [upA_no]
        exact k1.1.2.2.2 j hj
    have hS2 : nS (upA A2 76 s (nI n)) = s := by rw [nS_up (by decide)]; exact k2
    have M2 : okR (upA A2 76 s (nI n)) s n := by
      intro k hk
      unfold nRd
      simp (disch := omega) only [upA_no]
      exact k4 k hk
    have l73' : bn (upA A2 76 s (nI n) 73 s) 6 := by rw [upA_no (by omega)]; exact l73
    have l76 : upA A2 76 s (nI n) 76 s = nI n := upA_at
    generalize upA A2 76 s (nI n) = B at *
    have e3 := rx_at (h := h) (c := c) (T := T) (a := a) (G := G) hp
    have c70' : ∀ Q', aM (d + 2) 70 [.ref 3, .int (nI (a + 1))] (rx h q c T a G) Q' = Q' none (rx h q c T (a + 1) G) := fun Q' => c70 H hp C ha
    have c47' : ∀ Q', aM (d + 2) 47 [.ref q, .int (nI (c a - 48))] (rx h q c T (a + 1) G) Q' = Q' (some (.int (nI s))) (rx h q c T (a + 1) (upA (upA (upA G 7 s (nI (c a - 48))) 10 s (nI 0)) 0 6 (nI (s + 1)))) := fun Q' => c47 H hp hs e0
    have c63' : ∀ Q', aM (d + 2) 63 [.ref 3, .int (nI s)] (rx h q c T (a + 1) (upA (upA (upA G 7 s (nI (c a - 48))) 10 s (nI 0)) 0 6 (nI (s + 1)))) Q' = Q' none (rx h q c T a2 G2) := by
      intro Q'
      simp (disch := first | omega | assumption | exact gt_3 (HMa _ _) | (simp only [gT_pA, gT_pI, gT_pR]; first | assumption | exact gt_3 (HMa _ _)) | fail) only [s63_0, s63_1, s63_3, s63_4, s63_7, s63_8, s63_11, s63_12, s63_13, s63_16, s63_17, s63_20, s63_23, s63_24, s63_27, s63_28, s63_29, s63_32, s63_35, s63_36, s63_37, s63_38, s63_41, s63_42, s63_43, s63_46, s63_47, s63_50, s63_51, s63_52, s63_55, s63_58, s63_61, gt_3 (HMa _ _), am63, isRf_ref, true_and, and_true, aPs_s, aPs_n, b01_0, b01_1, nI_clamp, ix_nI, inb_nI, lt_nI, eq_nI, nn_nI, eq0_nI, pk_mul, nI_add, lt_T, lt_F, if_true, if_false, true_and, and_true, neg1_nI, neg1_lt, neg1_neg, lt_neg1, eqN_F, eq_self, ]
      exact k6 Q'
    have c67' : ∀ a G Q', aM (d + 2) 67 [.ref 3, .int (nI 59)] (rx h q c T a G) Q' = Q' (some (.int (zB (hr c T a == some 59)))) (rx h q c T (if (hr c T a == some 59) = true then a + 1 else a) G) := fun a G Q' => c67 H hp C (by decide)
    have c67x : ∀ a G Q', aM (d + 2) 67 [.ref 3, .int (nI 62)] (rx h q c T a G) Q' = Q' (some (.int (zB (hr c T a == some 62)))) (rx h q c T (if (hr c T a == some 62) = true then a + 1 else a) G) := fun a G Q' => c67 H hp C (by decide)
    unfold stW
    rcases Bool.eq_false_or_eq_true (hr c T a2 == some 62) with g1 | g1
    · have q1 := (hr_some (eq_of_beq g1)).1
      have c64' : ∀ Q', aM (d + 2) 64 [.ref 3, .int (nI s)] (rx h q c T (a2 + 1) G2) Q' = if okB c T (a2 + 1) s n B = true then Q' (some (.int (nI 1))) (rx h q c T (a2 + 1 + 1) (upA (upA G2 9 s (nI (c (a2 + 1) - 97))) 5 (c (a2 + 1) - 97) (nI s))) else Q' (some (.int (nI 0))) (rx h q c T (a2 + 1) G2) := fun Q' => c64 H hp hi C hs hn4 W2 hS2 l76 k5
      have eB : (inR (hr c T (a2 + 1)) 97 108 && (B 68 (c (a2 + 1) - 97) != 0 && (!(mWr B (c (a2 + 1) - 97)).isSome && !rdN B s n (c (a2 + 1) - 97)))) = okB c T (a2 + 1) s n B := rfl
      rw [if_pos g1, eB]
      rcases Bool.eq_false_or_eq_true (okB c T (a2 + 1) s n B) with g2 | g2
      · have g2' := g2
        unfold okB at g2'
        obtain ⟨y1, y2⟩ := Bool.and_eq_true_iff.mp g2'
        obtain ⟨y2, y3⟩ := Bool.and_eq_true_iff.mp y2
        obtain ⟨y3, y4⟩ := Bool.and_eq_true_iff.mp y3
        obtain ⟨z1, z2, z3, z4⟩ := inR_of y1
        have b12 : c (a2 + 1) - 97 < 12 := by omega
        have c65' : ∀ G Q', aM (d + 2) 65 [.ref 3, .int (nI s)] (rx h q c T (a2 + 1 + 1) G) Q' = Q' (some (.int (zB (nm2 c T (a2 + 1 + 1)).1.isSome))) (rx h q c T (nm2 c T (a2 + 1 + 1)).2 (upA G 8 s (oI (nm2 c T (a2 + 1 + 1)).1))) := fun G Q' => c65 H hp hi C z1 hs
        have v1 := (nm2_ok (c := c) (T := T) (a := a2 + 1 + 1) (by omega)).2.2
        simp only [g2, if_true] at c64' ⊢
        rw [show a2 + 2 = a2 + 1 + 1 from rfl]
        generalize c (a2 + 1) - 97 = b at *
        have hm0 : mWr B b = none := by
          cases hq : mWr B b with
          | none => rfl
          | some x => rw [hq] at y3; cases y3
        have hw0 : wrN B s b = none := by rw [← hm0]; unfold mWr wrN; rw [hS2]
        have hr0 : rdN B s n b = false := by
          cases hq : rdN B s n b with
          | false => rfl
          | true => rw [hq] at y4; cases y4
        have h680 : B 68 b ≠ 0 := fun q => by rw [q] at y2; cases y2
        generalize nm2 c T (a2 + 1 + 1) = rn at *
        refine ⟨upA (upA (upA G2 9 s (nI b)) 5 b (nI s)) 8 s (oI rn.1), ?_, fun Q => ?_⟩
        · cases hrn : rn.1 with
          | none => intro q; simp only [Option.isSome_none, fnE_f] at q; cases q
          | some t =>
            simp only [Option.isSome_some, if_true, fnE_t]
            split
            · intro _
              have ht := v1 t hrn
              have hS3 : nS (upA (upA (upA B 75 s (nI b)) 74 s (oI (some t))) 65 4 (nI (s + 1))) = s + 1 := by unfold nS; rw [upA_at, ix_nI (by omega)]
              refine ⟨okW_st W2 hS2 hs l73' hn4 l76 M2 b12 h680 hm0 hr0 ht, ?_⟩
              show RG _ (upA (upA (upA B 75 s (nI b)) 74 s (oI (some t))) 65 4 (nI (s + 1))) (nS (upA (upA (upA B 75 s (nI b)) 74 s (oI (some t))) 65 4 (nI (s + 1)))) (nS (upA (upA (upA B 75 s (nI b)) 74 s (oI (some t))) 65 4 (nI (s + 1))))
              rw [hS3]
              exact RG_write b12 hw0 k5
            · intro q; cases q
        · rcases Bool.eq_false_or_eq_true rn.1.isSome with g3 | g3
          · simp only [g3, if_true, fnE_t]
            rcases Bool.eq_false_or_eq_true (hr c T rn.2 == some 59) with g4 | g4
            · simp (disch := first | omega | assumption | exact gtP (HMa _ _) hp | exact gt_3 (HMa _ _) | (simp only [gT_pA, gT_pI, gT_pR]; first | assumption | exact gtP (HMa _ _) hp | exact gt_3 (HMa _ _)) | fail) only [s62_0, s62_1, s62_4, s62_7, s62_9, s62_12, s62_13, s62_14, s62_15, s62_16, s62_19, s62_20, s62_21, s62_24, s62_25, s62_28, s62_29, s62_32, s62_33, s62_34, s62_35, s62_38, s62_39, s62_41, s62_44, s62_47, s62_48, s62_49, s62_52, s62_55, s62_56, s62_57, s62_60, s62_63, s62_64, s62_66, s62_69, s62_72, s62_73, s62_76, s62_77, gtP (HMa _ _) hp, gt_3 (HMa _ _), am62, isRf_ref, true_and, and_true, aPs_s, aPs_n, b01_0, b01_1, nI_clamp, ix_nI, inb_nI, lt_nI, eq_nI, nn_nI, eq0_nI, pk_mul, nI_add, lt_T, lt_F, if_true, if_false, true_and, and_true, neg1_nI, neg1_lt, neg1_neg, lt_neg1, eqN_F, eq_self,  r34, rx_r0, e0, hs, e3, c70', c47', c63', c67x, g1, Bool.not_false, Bool.not_true, Bool.true_and, Bool.false_and, Bool.and_true, Bool.and_false, Bool.or_true, Bool.or_false, Bool.true_or, Bool.false_or, Bool.true_eq_false, Bool.false_eq_true, if_true, if_false, Option.isSome_some, Option.isSome_none, Option.isNone_some, Option.isNone_none, zB_t, zB_f, nI1_0, nI0_0, c64', c65', g3, c67', g4]
            · simp (disch := first | omega | assumption | exact gtP (HMa _ _) hp | exact gt_3 (HMa _ _) | (simp only [gT_pA, gT_pI, gT_pR]; first | assumption | exact gtP (HMa _ _) hp | exact gt_3 (HMa _ _)) | fail) only [s62_0, s62_1, s62_4, s62_7, s62_9, s62_12, s62_13, s62_14, s62_15, s62_16, s62_19, s62_20, s62_21, s62_24, s62_25, s62_28, s62_29, s62_32, s62_33, s62_34, s62_35, s62_38, s62_39, s62_41, s62_44, s62_47, s62_48, s62_49, s62_52, s62_55, s62_56, s62_57, s62_60, s62_63, s62_64, s62_66, s62_69, s62_72, s62_73, s62_76, s62_77, gtP (HMa _ _) hp, gt_3 (HMa _ _), am62, isRf_ref, true_and, and_true, aPs_s, aPs_n, b01_0, b01_1, nI_clamp, ix_nI, inb_nI, lt_nI, eq_nI, nn_nI, eq0_nI, pk_mul, nI_add, lt_T, lt_F, if_true, if_false, true_and, and_true, neg1_nI, neg1_lt, neg1_neg, lt_neg1, eqN_F, eq_self,  r34, rx_r0, e0, hs, e3, c70', c47', c63', c67x, g1, Bool.not_false, Bool.not_true, Bool.true_and, Bool.false_and, Bool.and_true, Bool.and_false, Bool.or_true, Bool.or_false, Bool.true_or, Bool.false_or, Bool.true_eq_false, Bool.false_eq_true, if_true, if_false, Option.isSome_some, Option.isSome_none, Option.isNone_some, Option.isNone_none, zB_t, zB_f, nI1_0, nI0_0, c64', c65', g3, c67', g4]
          · simp only [g3, if_false, Bool.false_eq_true, fnE_f]
            simp (disch := first | omega | assumption | exact gtP (HMa _ _) hp | exact gt_3 (HMa _ _) | (simp only [gT_pA, gT_pI, gT_pR]; first | assumption | exact gtP (HMa _ _) hp | exact gt_3 (HMa _ _)) | fail) only [s62_0, s62_1, s62_4, s62_7, s62_9, s62_12, s62_13, s62_14, s62_15, s62_16, s62_19, s62_20, s62_21, s62_24, s62_25, s62_28, s62_29, s62_32, s62_33, s62_34, s62_35, s62_38, s62_39, s62_41, s62_44, s62_47, s62_48, s62_49, s62_52, s62_55, s62_56, s62_57, s62_60, s62_63, s62_64, s62_66, s62_69, s62_72, s62_73, s62_76, s62_77, gtP (HMa _ _) hp, gt_3 (HMa _ _), am62, isRf_ref, true_and, and_true, aPs_s, aPs_n, b01_0, b01_1, nI_clamp, ix_nI, inb_nI, lt_nI, eq_nI, nn_nI, eq0_nI, pk_mul, nI_add, lt_T, lt_F, if_true, if_false, true_and, and_true, neg1_nI, neg1_lt, neg1_neg, lt_neg1, eqN_F, eq_self,  r34, rx_r0, e0, hs, e3, c70', c47', c63', c67x, g1, Bool.not_false, Bool.not_true, Bool.true_and, Bool.false_and, Bool.and_true, Bool.and_false, Bool.or_true, Bool.or_false, Bool.true_or, Bool.false_or, Bool.true_eq_false, Bool.false_eq_true, if_true, if_false, Option.isSome_some, Option.isSome_none, Option.isNone_some, Option.isNone_none, zB_t, zB_f, nI1_0, nI0_0, c64', c65', g3]
      · simp only [g2, if_false, Bool.false_eq_true] at c64' ⊢
        rw [fnE_f]
        refine ⟨G2, fun q => (by cases q), fun Q => ?_⟩
        simp (disch := first | omega | assumption | exact gtP (HMa _ _) hp | exact gt_3 (HMa _ _) | (simp only [gT_pA, gT_pI, gT_pR]; first | assumption | exact gtP (HMa _ _) hp | exact gt_3 (HMa _ _)) | fail) only [s62_0, s62_1, s62_4, s62_7, s62_9, s62_12, s62_13, s62_14, s62_15, s62_16, s62_19, s62_20, s62_21, s62_24, s62_25, s62_28, s62_29, s62_32, s62_33, s62_34, s62_35, s62_38, s62_39, s62_41, s62_44, s62_47, s62_48, s62_49, s62_52, s62_55, s62_56, s62_57, s62_60, s62_63, s62_64, s62_66, s62_69, s62_72, s62_73, s62_76, s62_77, gtP (HMa _ _) hp, gt_3 (HMa _ _), am62, isRf_ref, true_and, and_true, aPs_s, aPs_n, b01_0, b01_1, nI_clamp, ix_nI, inb_nI, lt_nI, eq_nI, nn_nI, eq0_nI, pk_mul, nI_add, lt_T, lt_F, if_true, if_false, true_and, and_true, neg1_nI, neg1_lt, neg1_neg, lt_neg1, eqN_F, eq_self,  r34, rx_r0, e0, hs, e3, c70', c47', c63', c67x, g1, Bool.not_false, Bool.not_true, Bool.true_and, Bool.false_and, Bool.and_true, Bool.and_false, Bool.or_true, Bool.or_false, Bool.true_or, Bool.false_or, Bool.true_eq_false, Bool.false_eq_true, if_true, if_false, Option.isSome_some, Option.isSome_none, Option.isNone_some, Option.isNone_none, zB_t, zB_f, nI1_0, nI0_0, c64']
    · rw [if_neg (by rw [g1]; decide), fnE_f]
      refine ⟨G2, fun q => (by cases q), fun Q => ?_⟩
      simp (disch := first | omega | assumption | exact gtP (HMa _ _) hp | exact gt_3 (HMa _ _) | (simp only [gT_pA, gT_pI, gT_pR]; first | assumption | exact gtP (HMa _ _) hp | exact gt_3 (HMa _ _)) | fail) only [s62_0, s62_1, s62_4, s62_7, s62_9, s62_12, s62_13, s62_14, s62_15, s62_16, s62_19, s62_20, s62_21, s62_24, s62_25, s62_28, s62_29, s62_32, s62_33, s62_34, s62_35, s62_38, s62_39, s62_41, s62_44, s62_47, s62_48, s62_49, s62_52, s62_55, s62_56, s62_57, s62_60, s62_63, s62_64, s62_66, s62_69, s62_72, s62_73, s62_76, s62_77, gtP (HMa _ _) hp, gt_3 (HMa _ _), am62, isRf_ref, true_and, and_true, aPs_s, aPs_n, b01_0, b01_1, nI_clamp, ix_nI, inb_nI, lt_nI, eq_nI, nn_nI, eq0_nI, pk_mul, nI_add, lt_T, lt_F, if_true, if_false, true_and, and_true, neg1_nI, neg1_lt, neg1_neg, lt_neg1, eqN_F, eq_self,  r34, rx_r0, e0, hs, e3, c70', c47', c63', c67x, g1, Bool.not_false, Bool.not_true, Bool.true_and, Bool.false_and, Bool.and_true, Bool.and_false, Bool.or_true, Bool.or_false, Bool.true_or, Bool.false_or, Bool.true_eq_false, Bool.false_eq_true, if_true, if_false, Option.isSome_some, Option.isSome_none, Option.isNone_some, Option.isNone_none, zB_t, zB_f, nI1_0, nI0_0]
theorem upA_self {A : Nat → Nat → Int32} {o k : Nat} {v : Int32} (h : A o k = v) : upA A o k v = A := by
  funext o' k'
  rw [upA_ap]
  split
  · rename_i q; rw [q.1, q.2, h]
  · rfl
theorem in_dj {t : Option Nat} (h : inR t 97 108 = true) : inR t 48 53 = false := by
  cases t with
  | none => rfl
  | some x =>
    have := in_some.mp h
    cases g : inR (some x) 48 53 with
    | false => rfl
    | true => have := in_some.mp g; omega
set_option maxHeartbeats 8000000 in
theorem c58 (H : KC h) (hp : q = 5 ∨ q = 17) (hi : gR h 3 4 = .ref q) {c : Nat → Nat} {T a : Nat} (C : tpC h c T) {A G : Nat → Nat → Int32} (W : okW A) (R : RG G A (nS A) (nS A)) : ∃ G', ((one c T a A).1 = true → okW (one c T a A).2.2 ∧ RG G' (one c T a A).2.2 (nS (one c T a A).2.2) (nS (one c T a A).2.2)) ∧ ∀ Q, aM (d + 4) 58 [.ref 3] (rx h q c T a G) Q = Q (some (.int (zB (one c T a A).1))) (rx h q c T (one c T a A).2.1 G') := by
  have HMa : ∀ a G, KC (rx h q c T a G) := fun _ _ => H
  have r34 : ∀ a G, gR (rx h q c T a G) 3 4 = .ref q := fun _ _ => hi
  have c69' : ∀ Q', aM (d + 3) 69 [.ref 3] (rx h q c T a G) Q' = Q' (some (.int (oI (bfO c T a)))) (rx h q c T a G) := fun Q' => c69 H hp C
  have c68' : ∀ Q', aM (d + 3) 68 [.ref 3] (rx h q c T a G) Q' = Q' (some (.int (oI (dgO c T a)))) (rx h q c T a G) := fun Q' => c68 H hp C
  have c20' : ∀ k Q', aM (d + 3) 20 [.int k] (rx h q c T a G) Q' = Q' (some (.int (zB (plc k 6).isSome))) (rx h q c T a G) := fun k Q' => c20
  unfold one
  rcases Bool.eq_false_or_eq_true (inR (hr c T a) 97 108) with g1 | g1
  · rw [if_neg (by rw [in_dj g1]; decide), if_pos g1]
    obtain ⟨q1, q2, q3, q4⟩ := inR_of g1
    rw [bfO_t g1, oI_s] at c69'
    have b12 : c a - 97 < 12 := by omega
    generalize c a - 97 = b at *
    obtain ⟨x1, x2, x3, x4⟩ := R.2.1 b b12
    obtain ⟨-, y1, y2, -⟩ := W.1.2.1 b b12
    have y3 : b01 (G 4 b) := by rw [x2]; exact y2
    have e1 : ∀ b, b < 12 → G 1 b = A 69 b := fun b hb => (R.2.1 b hb).1
    have e3 := rx_at (h := h) (c := c) (T := T) (a := a) (G := G) hp
    have c70' : ∀ Q', aM (d + 3) 70 [.ref 3, .int (nI (a + 1))] (rx h q c T a G) Q' = Q' none (rx h q c T (a + 1) G) := fun Q' => c70 H hp C q1
    have c44' : ∀ Q', aM (d + 3) 44 [.ref q, .int (nI b)] (rx h q c T (a + 1) G) Q' = Q' (some (.int (zB (A 68 b != 0)))) (rx h q c T (a + 1) G) := fun Q' => c44r (t := some b) H hp W e1 (fun b e => by cases e; exact b12)
    by_cases g2 : A 68 b = 0
    · have o1 := (W.2.1 b b12).1 g2
      have o2 : G 4 b = 0 := x2.trans o1.2
      have g2' : (A 68 b != 0) = false := by simp [g2]
      rw [g2'] at c44'
      have c67' : ∀ Q', aM (d + 2) 67 [.ref 3, .int (nI 61)] (rx h q c T (a + 1) G) Q' = Q' (some (.int (zB (hr c T (a + 1) == some 61)))) (rx h q c T (if (hr c T (a + 1) == some 61) = true then a + 1 + 1 else a + 1) G) := fun Q' => c67 H hp C (by decide)
      rw [if_pos g2]
      rcases Bool.eq_false_or_eq_true (hr c T (a + 1) == some 61) with g3 | g3
      · have hT := (hr_some (eq_of_beq g3)).1
        rw [if_pos g3]
        obtain ⟨G', k1, k2⟩ := c60_13 (d := d) H hp hi C b12 (m := 4) (n := 0) (a := a + 2) (A := A) (G := G) rfl (by omega) W g2 (fun k hk => by omega) (by rw [upA_self o1.1]; exact R)
        refine ⟨G', fun q => ?_, fun Q => ?_⟩
        · obtain ⟨m1, m2, m3⟩ := k1 q
          rw [m2]
          exact ⟨m1, m3⟩
        · simp only [g3, if_true] at c67'
          have c60' : ∀ Q', aM (d + 3) 60 [.ref 3, .int (nI b)] (rx h q c T (a + 1) G) Q' = Q' (some (.int (zB (fnE c T (rsN c T b 4 0 (a + 2) A)).1))) (rx h q c T (fnE c T (rsN c T b 4 0 (a + 2) A)).2.1 G') := by
            intro Q'
            simp (disch := first | omega | assumption | exact gt_3 (HMa _ _) | (simp only [gT_pA, gT_pI, gT_pR]; first | assumption | exact gt_3 (HMa _ _)) | fail) only [s60_0, s60_1, s60_3, s60_6, s60_9, s60_10, s60_11, s60_12, s60_14, s60_15, s60_18, s60_19, s60_20, s60_23, s60_26, s60_27, s60_28, s60_29, s60_31, s60_34, s60_37, s60_38, s60_39, s60_40, s60_42, s60_45, s60_48, s60_49, s60_50, s60_53, s60_56, s60_57, gt_3 (HMa _ _), am60, isRf_ref, true_and, and_true, aPs_s, aPs_n, b01_0, b01_1, nI_clamp, ix_nI, inb_nI, lt_nI, eq_nI, nn_nI, eq0_nI, pk_mul, nI_add, lt_T, lt_F, if_true, if_false, true_and, and_true, neg1_nI, neg1_lt, neg1_neg, lt_neg1, eqN_F, eq_self,  c67', Bool.not_false, Bool.not_true, Bool.true_and, Bool.false_and, Bool.and_true, Bool.and_false, Bool.or_true, Bool.or_false, Bool.true_or, Bool.false_or, Bool.true_eq_false, Bool.false_eq_true, if_true, if_false, Option.isSome_some, Option.isSome_none, Option.isNone_some, Option.isNone_none, zB_t, zB_f, nI1_0, nI0_0]
            exact k2 Q'
          simp (disch := first | omega | assumption | exact gtP (HMa _ _) hp | exact gt_3 (HMa _ _) | (simp only [gT_pA, gT_pI, gT_pR]; first | assumption | exact gtP (HMa _ _) hp | exact gt_3 (HMa _ _)) | fail) only [s58_0, s58_1, s58_4, s58_5, s58_6, s58_9, s58_10, s58_13, s58_14, s58_15, s58_18, s58_21, s58_22, s58_23, s58_26, s58_29, s58_30, s58_33, s58_34, s58_35, s58_36, s58_39, s58_42, s58_43, s58_44, s58_47, s58_48, s58_49, s58_50, s58_51, s58_54, s58_55, s58_56, s58_59, s58_60, s58_63, s58_64, s58_67, s58_70, s58_71, s58_72, s58_75, s58_78, s58_79, s58_80, s58_83, azP_4 (HMa _ _) hp, grP_3 (HMa _ _) hp, gtP (HMa _ _) hp, gt_3 (HMa _ _), am58, isRf_ref, true_and, and_true, aPs_s, aPs_n, b01_0, b01_1, nI_clamp, ix_nI, inb_nI, lt_nI, eq_nI, nn_nI, eq0_nI, pk_mul, nI_add, lt_T, lt_F, if_true, if_false, true_and, and_true, neg1_nI, neg1_lt, neg1_neg, lt_neg1, eqN_F, eq_self,  r34, c69', nn_nI, rx_ra, b12, y3, o2, Bool.not_false, Bool.not_true, Bool.true_and, Bool.false_and, Bool.and_true, Bool.and_false, Bool.or_true, Bool.or_false, Bool.true_or, Bool.false_or, Bool.true_eq_false, Bool.false_eq_true, if_true, if_false, Option.isSome_some, Option.isSome_none, Option.isNone_some, Option.isNone_none, zB_t, zB_f, nI1_0, nI0_0, e3, c70', c44', c60', zB_b]
      · rw [if_neg (by rw [g3]; decide)]
        refine ⟨G, fun q => (by cases q), fun Q => ?_⟩
        simp only [g3, if_false, Bool.false_eq_true] at c67'
        have c60' : ∀ Q', aM (d + 3) 60 [.ref 3, .int (nI b)] (rx h q c T (a + 1) G) Q' = Q' (some (.int (nI 0))) (rx h q c T (a + 1) G) := by
          intro Q'
          simp (disch := first | omega | assumption | exact gt_3 (HMa _ _) | (simp only [gT_pA, gT_pI, gT_pR]; first | assumption | exact gt_3 (HMa _ _)) | fail) only [s60_0, s60_1, s60_3, s60_6, s60_9, s60_10, s60_11, s60_12, s60_14, s60_15, s60_18, s60_19, s60_20, s60_23, s60_26, s60_27, s60_28, s60_29, s60_31, s60_34, s60_37, s60_38, s60_39, s60_40, s60_42, s60_45, s60_48, s60_49, s60_50, s60_53, s60_56, s60_57, gt_3 (HMa _ _), am60, isRf_ref, true_and, and_true, aPs_s, aPs_n, b01_0, b01_1, nI_clamp, ix_nI, inb_nI, lt_nI, eq_nI, nn_nI, eq0_nI, pk_mul, nI_add, lt_T, lt_F, if_true, if_false, true_and, and_true, neg1_nI, neg1_lt, neg1_neg, lt_neg1, eqN_F, eq_self,  c67', Bool.not_false, Bool.not_true, Bool.true_and, Bool.false_and, Bool.and_true, Bool.and_false, Bool.or_true, Bool.or_false, Bool.true_or, Bool.false_or, Bool.true_eq_false, Bool.false_eq_true, if_true, if_false, Option.isSome_some, Option.isSome_none, Option.isNone_some, Option.isNone_none, zB_t, zB_f, nI1_0, nI0_0]
        simp (disch := first | omega | assumption | exact gtP (HMa _ _) hp | exact gt_3 (HMa _ _) | (simp only [gT_pA, gT_pI, gT_pR]; first | assumption | exact gtP (HMa _ _) hp | exact gt_3 (HMa _ _)) | fail) only [s58_0, s58_1, s58_4, s58_5, s58_6, s58_9, s58_10, s58_13, s58_14, s58_15, s58_18, s58_21, s58_22, s58_23, s58_26, s58_29, s58_30, s58_33, s58_34, s58_35, s58_36, s58_39, s58_42, s58_43, s58_44, s58_47, s58_48, s58_49, s58_50, s58_51, s58_54, s58_55, s58_56, s58_59, s58_60, s58_63, s58_64, s58_67, s58_70, s58_71, s58_72, s58_75, s58_78, s58_79, s58_80, s58_83, azP_4 (HMa _ _) hp, grP_3 (HMa _ _) hp, gtP (HMa _ _) hp, gt_3 (HMa _ _), am58, isRf_ref, true_and, and_true, aPs_s, aPs_n, b01_0, b01_1, nI_clamp, ix_nI, inb_nI, lt_nI, eq_nI, nn_nI, eq0_nI, pk_mul, nI_add, lt_T, lt_F, if_true, if_false, true_and, and_true, neg1_nI, neg1_lt, neg1_neg, lt_neg1, eqN_F, eq_self,  r34, c69', nn_nI, rx_ra, b12, y3, o2, Bool.not_false, Bool.not_true, Bool.true_and, Bool.false_and, Bool.and_true, Bool.and_false, Bool.or_true, Bool.or_false, Bool.true_or, Bool.false_or, Bool.true_eq_false, Bool.false_eq_true, if_true, if_false, Option.isSome_some, Option.isSome_none, Option.isNone_some, Option.isNone_none, zB_t, zB_f, nI1_0, nI0_0, e3, c70', c44', c60']
    · have g2' : (A 68 b != 0) = true := by simp [g2]
      rw [g2'] at c44'
      rw [if_neg g2]
      by_cases g3 : A 72 b = 0
      · have o2 : G 4 b = 0 := x2.trans g3
        rw [if_pos g3]
        have c59' : ∀ Q', aM (d + 3) 59 [.ref 3, .int (nI b)] (rx h q c T (a + 1) G) Q' = Q' (some (.int (zB (fnE c T (wtA c T (a + 1) A b)).1))) (rx h q c T (fnE c T (wtA c T (a + 1) A b)).2.1 (upA G 4 b (nI 1))) := fun Q' => c59 H hp hi C b12
        refine ⟨upA G 4 b (nI 1), ?_, fun Q => ?_⟩
        · rw [wtA_f]
          split
          · split
            · intro _
              have hS : nS (upA A 72 b (nI 1)) = nS A := nS_up (by decide)
              refine ⟨okW_wt W g2 (Or.inr rfl), ?_⟩
              show RG _ (upA A 72 b (nI 1)) (nS (upA A 72 b (nI 1))) (nS (upA A 72 b (nI 1)))
              rw [hS]
              exact RG_wt b12 R
            · intro q; cases q
          · intro q; cases q
        · simp (disch := first | omega | assumption | exact gtP (HMa _ _) hp | exact gt_3 (HMa _ _) | (simp only [gT_pA, gT_pI, gT_pR]; first | assumption | exact gtP (HMa _ _) hp | exact gt_3 (HMa _ _)) | fail) only [s58_0, s58_1, s58_4, s58_5, s58_6, s58_9, s58_10, s58_13, s58_14, s58_15, s58_18, s58_21, s58_22, s58_23, s58_26, s58_29, s58_30, s58_33, s58_34, s58_35, s58_36, s58_39, s58_42, s58_43, s58_44, s58_47, s58_48, s58_49, s58_50, s58_51, s58_54, s58_55, s58_56, s58_59, s58_60, s58_63, s58_64, s58_67, s58_70, s58_71, s58_72, s58_75, s58_78, s58_79, s58_80, s58_83, azP_4 (HMa _ _) hp, grP_3 (HMa _ _) hp, gtP (HMa _ _) hp, gt_3 (HMa _ _), am58, isRf_ref, true_and, and_true, aPs_s, aPs_n, b01_0, b01_1, nI_clamp, ix_nI, inb_nI, lt_nI, eq_nI, nn_nI, eq0_nI, pk_mul, nI_add, lt_T, lt_F, if_true, if_false, true_and, and_true, neg1_nI, neg1_lt, neg1_neg, lt_neg1, eqN_F, eq_self,  r34, c69', nn_nI, rx_ra, b12, y3, o2, Bool.not_false, Bool.not_true, Bool.true_and, Bool.false_and, Bool.and_true, Bool.and_false, Bool.or_true, Bool.or_false, Bool.true_or, Bool.false_or, Bool.true_eq_false, Bool.false_eq_true, if_true, if_false, Option.isSome_some, Option.isSome_none, Option.isNone_some, Option.isNone_none, zB_t, zB_f, nI1_0, nI0_0, e3, c70', c44', c59', zB_b]
      · have o2 : (G 4 b = 0) = False := eq_false (by rw [x2]; exact g3)
        rw [if_neg g3]
        refine ⟨G, fun q => (by cases q), fun Q => ?_⟩
        simp (disch := first | omega | assumption | exact gtP (HMa _ _) hp | exact gt_3 (HMa _ _) | (simp only [gT_pA, gT_pI, gT_pR]; first | assumption | exact gtP (HMa _ _) hp | exact gt_3 (HMa _ _)) | fail) only [s58_0, s58_1, s58_4, s58_5, s58_6, s58_9, s58_10, s58_13, s58_14, s58_15, s58_18, s58_21, s58_22, s58_23, s58_26, s58_29, s58_30, s58_33, s58_34, s58_35, s58_36, s58_39, s58_42, s58_43, s58_44, s58_47, s58_48, s58_49, s58_50, s58_51, s58_54, s58_55, s58_56, s58_59, s58_60, s58_63, s58_64, s58_67, s58_70, s58_71, s58_72, s58_75, s58_78, s58_79, s58_80, s58_83, azP_4 (HMa _ _) hp, grP_3 (HMa _ _) hp, gtP (HMa _ _) hp, gt_3 (HMa _ _), am58, isRf_ref, true_and, and_true, aPs_s, aPs_n, b01_0, b01_1, nI_clamp, ix_nI, inb_nI, lt_nI, eq_nI, nn_nI, eq0_nI, pk_mul, nI_add, lt_T, lt_F, if_true, if_false, true_and, and_true, neg1_nI, neg1_lt, neg1_neg, lt_neg1, eqN_F, eq_self,  r34, c69', nn_nI, rx_ra, b12, y3, o2, Bool.not_false, Bool.not_true, Bool.true_and, Bool.false_and, Bool.and_true, Bool.and_false, Bool.or_true, Bool.or_false, Bool.true_or, Bool.false_or, Bool.true_eq_false, Bool.false_eq_true, if_true, if_false, Option.isSome_some, Option.isSome_none, Option.isNone_some, Option.isNone_none, zB_t, zB_f, nI1_0, nI0_0]
  · rw [bfO_f g1, oI_n] at c69'
    rcases Bool.eq_false_or_eq_true (inR (hr c T a) 48 53) with g2 | g2
    · obtain ⟨q1, q2, q3, q4⟩ := inR_of g2
      rw [if_pos g2]
      have ed : dgO c T a = some (c a - 48) := by
        unfold dgO
        rw [if_pos]
        rw [q4]
        exact in_some.mpr (by omega)
      rw [ed, oI_s] at c68'
      have c20x : ∀ Q', aM (d + 3) 20 [.int (nI (c a - 48))] (rx h q c T a G) Q' = Q' (some (.int (nI 1))) (rx h q c T a G) := fun Q' => by rw [c20', plc_nI (by omega) (by decide)]; rfl
      obtain ⟨G', k1, k2⟩ := c62 (d := d) H hp hi C q1 (by omega) W R
      refine ⟨G', k1, fun Q => ?_⟩
      rcases Bool.eq_false_or_eq_true (fnE c T (stp c T a A)).1 with g3 | g3
      · rw [g3] at k2 ⊢
        simp (disch := first | omega | assumption | exact gtP (HMa _ _) hp | exact gt_3 (HMa _ _) | (simp only [gT_pA, gT_pI, gT_pR]; first | assumption | exact gtP (HMa _ _) hp | exact gt_3 (HMa _ _)) | fail) only [s58_0, s58_1, s58_4, s58_5, s58_6, s58_9, s58_10, s58_13, s58_14, s58_15, s58_18, s58_21, s58_22, s58_23, s58_26, s58_29, s58_30, s58_33, s58_34, s58_35, s58_36, s58_39, s58_42, s58_43, s58_44, s58_47, s58_48, s58_49, s58_50, s58_51, s58_54, s58_55, s58_56, s58_59, s58_60, s58_63, s58_64, s58_67, s58_70, s58_71, s58_72, s58_75, s58_78, s58_79, s58_80, s58_83, azP_4 (HMa _ _) hp, grP_3 (HMa _ _) hp, gtP (HMa _ _) hp, gt_3 (HMa _ _), am58, isRf_ref, true_and, and_true, aPs_s, aPs_n, b01_0, b01_1, nI_clamp, ix_nI, inb_nI, lt_nI, eq_nI, nn_nI, eq0_nI, pk_mul, nI_add, lt_T, lt_F, if_true, if_false, true_and, and_true, neg1_nI, neg1_lt, neg1_neg, lt_neg1, eqN_F, eq_self,  r34, c69', iflt_m1, c68', c20x, Bool.not_false, Bool.not_true, Bool.true_and, Bool.false_and, Bool.and_true, Bool.and_false, Bool.or_true, Bool.or_false, Bool.true_or, Bool.false_or, Bool.true_eq_false, Bool.false_eq_true, if_true, if_false, Option.isSome_some, Option.isSome_none, Option.isNone_some, Option.isNone_none, zB_t, zB_f, nI1_0, nI0_0, k2]
      · rw [g3] at k2 ⊢
        simp (disch := first | omega | assumption | exact gtP (HMa _ _) hp | exact gt_3 (HMa _ _) | (simp only [gT_pA, gT_pI, gT_pR]; first | assumption | exact gtP (HMa _ _) hp | exact gt_3 (HMa _ _)) | fail) only [s58_0, s58_1, s58_4, s58_5, s58_6, s58_9, s58_10, s58_13, s58_14, s58_15, s58_18, s58_21, s58_22, s58_23, s58_26, s58_29, s58_30, s58_33, s58_34, s58_35, s58_36, s58_39, s58_42, s58_43, s58_44, s58_47, s58_48, s58_49, s58_50, s58_51, s58_54, s58_55, s58_56, s58_59, s58_60, s58_63, s58_64, s58_67, s58_70, s58_71, s58_72, s58_75, s58_78, s58_79, s58_80, s58_83, azP_4 (HMa _ _) hp, grP_3 (HMa _ _) hp, gtP (HMa _ _) hp, gt_3 (HMa _ _), am58, isRf_ref, true_and, and_true, aPs_s, aPs_n, b01_0, b01_1, nI_clamp, ix_nI, inb_nI, lt_nI, eq_nI, nn_nI, eq0_nI, pk_mul, nI_add, lt_T, lt_F, if_true, if_false, true_and, and_true, neg1_nI, neg1_lt, neg1_neg, lt_neg1, eqN_F, eq_self,  r34, c69', iflt_m1, c68', c20x, Bool.not_false, Bool.not_true, Bool.true_and, Bool.false_and, Bool.and_true, Bool.and_false, Bool.or_true, Bool.or_false, Bool.true_or, Bool.false_or, Bool.true_eq_false, Bool.false_eq_true, if_true, if_false, Option.isSome_some, Option.isSome_none, Option.isNone_some, Option.isNone_none, zB_t, zB_f, nI1_0, nI0_0, k2]
    · rw [if_neg (by rw [g2]; decide), if_neg (by rw [g1]; decide)]
      refine ⟨G, fun q => (by cases q), fun Q => ?_⟩
      have c20x : ∀ Q', aM (d + 3) 20 [.int (oI (dgO c T a))] (rx h q c T a G) Q' = Q' (some (.int (nI 0))) (rx h q c T a G) := fun Q' => by
        rw [c20']
        have : plc (oI (dgO c T a)) 6 = none := by
          unfold dgO
          by_cases g3 : inR (hr c T a) 48 57 = true
          · obtain ⟨q1, q2, q3, q4⟩ := inR_of g3
            rw [if_pos g3, oI_s]
            rcases plc_cases (nI (c a - 48)) 6 (by decide) with ⟨j, hj, e, _⟩ | ⟨e, _⟩ | ⟨e, _⟩
            · have := (nI_eq (by omega) (by omega)).mp e
              rw [q4, in_some.mpr (by omega)] at g2
              cases g2
            · exact e
            · exact e
          · rw [if_neg g3]; exact plc_neg (by decide)
        rw [this]
        rfl
      simp (disch := first | omega | assumption | exact gtP (HMa _ _) hp | exact gt_3 (HMa _ _) | (simp only [gT_pA, gT_pI, gT_pR]; first | assumption | exact gtP (HMa _ _) hp | exact gt_3 (HMa _ _)) | fail) only [s58_0, s58_1, s58_4, s58_5, s58_6, s58_9, s58_10, s58_13, s58_14, s58_15, s58_18, s58_21, s58_22, s58_23, s58_26, s58_29, s58_30, s58_33, s58_34, s58_35, s58_36, s58_39, s58_42, s58_43, s58_44, s58_47, s58_48, s58_49, s58_50, s58_51, s58_54, s58_55, s58_56, s58_59, s58_60, s58_63, s58_64, s58_67, s58_70, s58_71, s58_72, s58_75, s58_78, s58_79, s58_80, s58_83, azP_4 (HMa _ _) hp, grP_3 (HMa _ _) hp, gtP (HMa _ _) hp, gt_3 (HMa _ _), am58, isRf_ref, true_and, and_true, aPs_s, aPs_n, b01_0, b01_1, nI_clamp, ix_nI, inb_nI, lt_nI, eq_nI, nn_nI, eq0_nI, pk_mul, nI_add, lt_T, lt_F, if_true, if_false, true_and, and_true, neg1_nI, neg1_lt, neg1_neg, lt_neg1, eqN_F, eq_self,  r34, c69', iflt_m1, c68', c20x, Bool.not_false, Bool.not_true, Bool.true_and, Bool.false_and, Bool.and_true, Bool.and_false, Bool.or_true, Bool.or_false, Bool.true_or, Bool.false_or, Bool.true_eq_false, Bool.false_eq_true, if_true, if_false, Option.isSome_some, Option.isSome_none, Option.isNone_some, Option.isNone_none, zB_t, zB_f, nI1_0, nI0_0]
set_option maxHeartbeats 8000000 in
theorem c57_19 (H : KC h) (hp : q = 5 ∨ q = 17) (hi : gR h 3 4 = .ref q) {c : Nat → Nat} {T : Nat} (C : tpC h c T) : ∀ {f a t : Nat} {A G : Nat → Nat → Int32}, t + f = 240 → a ≤ T → okW A → RG G A (nS A) (nS A) → ∃ G', ((prg c T f a A).1 = true → okW (prg c T f a A).2.2 ∧ RG G' (prg c T f a A).2.2 (nS (prg c T f a A).2.2) (nS (prg c T f a A).2.2)) ∧ ∀ Q, aW (d + 5) 57 19 [.ref 3, .ref q, .int (nI t)] [] (rx h q c T a G) Q = Q (some (.int (if (prg c T f a A).1 = true then -1 else nI (prg c T f a A).2.1))) (rx h q c T (prg c T f a A).2.1 G') := by
  have HMa : ∀ a G, KC (rx h q c T a G) := fun _ _ => H
  have e4 : ∀ a G, gI (rx h q c T a G) 3 1 = nI T := fun a G => (rx_len hp).trans C.1
  have e3 := fun a G => rx_at (h := h) (c := c) (T := T) (a := a) (G := G) hp
  have hT := C.2.1
  intro f
  induction f with
  | zero =>
    intro a t A G ht ha W R
    have ht : t = 240 := by omega
    subst ht
    rw [prg]
    refine ⟨G, fun _ => ⟨W, R⟩, fun Q => ?_⟩
    rw [s57_19]
    simp (disch := first | omega | assumption | exact gt_3 (HMa _ _) | (simp only [gT_pA, gT_pI, gT_pR]; first | assumption | exact gt_3 (HMa _ _)) | fail) only [s57_0, s57_1, s57_2, s57_5, s57_6, s57_9, s57_12, s57_13, s57_14, s57_17, s57_18, s57_20, s57_23, s57_26, s57_27, s57_30, s57_31, s57_34, s57_37, s57_38, s57_41, s57_44, s57_45, s57_48, s57_49, s57_52, s57_55, s57_56, gt_3 (HMa _ _), am57, isRf_ref, true_and, and_true, aPs_s, aPs_n, b01_0, b01_1, nI_clamp, ix_nI, inb_nI, lt_nI, eq_nI, nn_nI, eq0_nI, pk_mul, nI_add, lt_T, lt_F, if_true, if_false, true_and, and_true, neg1_nI, neg1_lt, neg1_neg, lt_neg1, eqN_F, eq_self,  Nat.lt_irrefl]
  | succ f ih =>
    intro a t A G ht ha W R
    have ht2 : t < 240 := by omega
    rw [prg]
    by_cases h1 : a < T
    · rw [if_pos h1]
      obtain ⟨G1, k1, k2⟩ := c58 (d := d) H hp hi C W R (a := a)
      have ho := one_le (c := c) (A := A) ha
      rcases Bool.eq_false_or_eq_true (one c T a A).1 with g | g
      · rw [if_pos g]
        obtain ⟨m1, m2⟩ := k1 g
        obtain ⟨G2, n1, n2⟩ := ih (a := (one c T a A).2.1) (t := t + 1) (by omega) ho.1 m1 m2
        refine ⟨G2, n1, fun Q => ?_⟩
        rw [g] at k2
        rw [s57_19]
        simp (disch := first | omega | assumption | exact gt_3 (HMa _ _) | (simp only [gT_pA, gT_pI, gT_pR]; first | assumption | exact gt_3 (HMa _ _)) | fail) only [s57_0, s57_1, s57_2, s57_5, s57_6, s57_9, s57_12, s57_13, s57_14, s57_17, s57_18, s57_20, s57_23, s57_26, s57_27, s57_30, s57_31, s57_34, s57_37, s57_38, s57_41, s57_44, s57_45, s57_48, s57_49, s57_52, s57_55, s57_56, gt_3 (HMa _ _), am57, isRf_ref, true_and, and_true, aPs_s, aPs_n, b01_0, b01_1, nI_clamp, ix_nI, inb_nI, lt_nI, eq_nI, nn_nI, eq0_nI, pk_mul, nI_add, lt_T, lt_F, if_true, if_false, true_and, and_true, neg1_nI, neg1_lt, neg1_neg, lt_neg1, eqN_F, eq_self,  e3, e4, h1, ht2, k2, Bool.not_false, Bool.not_true, Bool.true_and, Bool.false_and, Bool.and_true, Bool.and_false, Bool.or_true, Bool.or_false, Bool.true_or, Bool.false_or, Bool.true_eq_false, Bool.false_eq_true, if_true, if_false, Option.isSome_some, Option.isSome_none, Option.isNone_some, Option.isNone_none, zB_t, zB_f, nI1_0, nI0_0]
        exact n2 Q
      · rw [if_neg (by rw [g]; decide)]
        refine ⟨G1, fun q => (by cases q), fun Q => ?_⟩
        rw [g] at k2
        rw [s57_19]
        simp (disch := first | omega | assumption | exact gt_3 (HMa _ _) | (simp only [gT_pA, gT_pI, gT_pR]; first | assumption | exact gt_3 (HMa _ _)) | fail) only [s57_0, s57_1, s57_2, s57_5, s57_6, s57_9, s57_12, s57_13, s57_14, s57_17, s57_18, s57_20, s57_23, s57_26, s57_27, s57_30, s57_31, s57_34, s57_37, s57_38, s57_41, s57_44, s57_45, s57_48, s57_49, s57_52, s57_55, s57_56, gt_3 (HMa _ _), am57, isRf_ref, true_and, and_true, aPs_s, aPs_n, b01_0, b01_1, nI_clamp, ix_nI, inb_nI, lt_nI, eq_nI, nn_nI, eq0_nI, pk_mul, nI_add, lt_T, lt_F, if_true, if_false, true_and, and_true, neg1_nI, neg1_lt, neg1_neg, lt_neg1, eqN_F, eq_self,  e3, e4, h1, ht2, k2, Bool.not_false, Bool.not_true, Bool.true_and, Bool.false_and, Bool.and_true, Bool.and_false, Bool.or_true, Bool.or_false, Bool.true_or, Bool.false_or, Bool.true_eq_false, Bool.false_eq_true, if_true, if_false, Option.isSome_some, Option.isSome_none, Option.isNone_some, Option.isNone_none, zB_t, zB_f, nI1_0, nI0_0]
    · rw [if_neg h1]
      refine ⟨G, fun _ => ⟨W, R⟩, fun Q => ?_⟩
      rw [s57_19]
      simp (disch := first | omega | assumption | exact gt_3 (HMa _ _) | (simp only [gT_pA, gT_pI, gT_pR]; first | assumption | exact gt_3 (HMa _ _)) | fail) only [s57_0, s57_1, s57_2, s57_5, s57_6, s57_9, s57_12, s57_13, s57_14, s57_17, s57_18, s57_20, s57_23, s57_26, s57_27, s57_30, s57_31, s57_34, s57_37, s57_38, s57_41, s57_44, s57_45, s57_48, s57_49, s57_52, s57_55, s57_56, gt_3 (HMa _ _), am57, isRf_ref, true_and, and_true, aPs_s, aPs_n, b01_0, b01_1, nI_clamp, ix_nI, inb_nI, lt_nI, eq_nI, nn_nI, eq0_nI, pk_mul, nI_add, lt_T, lt_F, if_true, if_false, true_and, and_true, neg1_nI, neg1_lt, neg1_neg, lt_neg1, eqN_F, eq_self,  e3, e4, h1, ht2]
theorem nI_ex (v : Int32) : ∃ k, nI k = v := ⟨v.toBitVec.toNat, by
  apply Int32.toBitVec_inj.mp
  show BitVec.ofNat 32 v.toBitVec.toNat = v.toBitVec
  simp⟩
theorem rx_self {x : Int32} {a : Nat} (h2 : gI h 3 2 = nI a) (h3 : gI h 3 3 = x) : rxH h q a x (rxV h q) = h := by
  unfold rxH
  have : rxF h q a x (rxV h q) = gI h := by
    funext o
    unfold rxF rxV
    by_cases g : q ≤ o ∧ o ≤ q + 11
    · rw [if_pos g, show q + (o - q) = o by omega]
    · rw [if_neg g]
      by_cases e : o = 3
      · subst e
        rw [if_pos rfl]
        funext k
        by_cases e3 : k = 3
        · subst e3; rw [upd_eq, h3]
        · rw [upd_ne e3]
          by_cases e2 : k = 2
          · subst e2; rw [upd_eq, h2]
          · rw [upd_ne e2]
      · rw [if_neg e]
  rw [this]
  rfl
set_option maxHeartbeats 8000000 in
theorem c57 (H : KC h) (hp : q = 5 ∨ q = 17) {c : Nat → Nat} {T : Nat} (C : tpC h c T) {B : Nat → Nat → Int32} (h67 : ∀ j, j < 4 → bn (B 67 j) 100) : ∃ G', ((pgR c T B).1 = true → okW (pgR c T B).2.2 ∧ RG G' (pgR c T B).2.2 (nS (pgR c T B).2.2) (nS (pgR c T B).2.2)) ∧ ∀ Q, aM (d + 5) 57 [.ref 3, .ref q] h Q = Q (some (.int (if (pgR c T B).1 = true then -1 else nI (pgR c T B).2.1))) (rx (pR h 3 4 (.ref q)) q c T (pgR c T B).2.1 G') := by
  generalize hh : pR h 3 4 (.ref q) = h1
  have H1 : KC h1 := by rw [← hh]; exact KC_pR H (by decide)
  have C1 : tpC h1 c T := by rw [← hh]; exact C
  have r1 : gR h1 3 4 = .ref q := by rw [← hh, gR_pR, if_pos ⟨rfl, rfl⟩]
  obtain ⟨a, ha⟩ := nI_ex (gI h1 3 2)
  have e1 : rxH h1 q a (gI h1 3 3) (rxV h1 q) = h1 := rx_self ha.symm rfl
  have HMa : ∀ a x G, KC (rxH h1 q a x G) := fun _ _ _ => H1
  have r34 : ∀ a x G, gR (rxH h1 q a x G) 3 4 = .ref q := fun _ _ _ => r1
  have c43' : ∀ Q', aM (d + 4) 43 [.ref q] h1 Q' = Q' none (rxH h1 q a (gI h1 3 3) (clG (rxV h1 q) 12)) := by
    intro Q'
    have := c43 (d := d + 4) (Q := Q') H1 hp (a := a) (x := gI h1 3 3) (G := rxV h1 q)
    rw [e1] at this
    exact this
  have c70' : ∀ Q', aM (d + 4) 70 [.ref 3, .int (nI 0)] (rxH h1 q a (gI h1 3 3) (clG (rxV h1 q) 12)) Q' = Q' none (rx h1 q c T 0 (clG (rxV h1 q) 12)) := fun Q' => c70g H1 hp C1 (Nat.zero_le _)
  have hS : nS (bgA B 12) = 0 := by
    unfold nS bgA
    simp only [show ¬ (65 = 68 ∨ 65 = 69 ∨ 65 = 72) by decide, if_false, if_true, upd_eq]
    exact ix_nI (by decide)
  obtain ⟨G', k1, k2⟩ := c57_19 (d := d) H1 hp r1 C1 (f := 240) (a := 0) (t := 0) (A := bgA B 12) (G := clG (rxV h1 q) 12) rfl (Nat.zero_le _) (okW_bg h67) (by rw [hS]; exact RG_cl)
  refine ⟨G', k1, fun Q => ?_⟩
  have r3 := gt_3 H
  have r4 := gt_3 H1
  have r5 := gtP H1 hp
  simp (disch := first | omega | assumption | exact gtP (HMa _ _ _) hp | exact gt_3 (HMa _ _ _) | (simp only [gT_pA, gT_pI, gT_pR]; first | assumption | exact gtP (HMa _ _ _) hp | exact gt_3 (HMa _ _ _)) | fail) only [s57_0, s57_1, s57_2, s57_5, s57_6, s57_9, s57_12, s57_13, s57_14, s57_17, s57_18, s57_20, s57_23, s57_26, s57_27, s57_30, s57_31, s57_34, s57_37, s57_38, s57_41, s57_44, s57_45, s57_48, s57_49, s57_52, s57_55, s57_56, gtP (HMa _ _ _) hp, gt_3 (HMa _ _ _), am57, isRf_ref, true_and, and_true, aPs_s, aPs_n, b01_0, b01_1, nI_clamp, ix_nI, inb_nI, lt_nI, eq_nI, nn_nI, eq0_nI, pk_mul, nI_add, lt_T, lt_F, if_true, if_false, true_and, and_true, neg1_nI, neg1_lt, neg1_neg, lt_neg1, eqN_F, eq_self,  hh, r1, c43', c70']
  exact k2 Q
end C21
