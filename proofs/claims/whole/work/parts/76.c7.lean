/-! THE CLASS: lives, loads, renew -/
def lvF (P : Nat → Nat → Int32) (o : Nat → Nat) (k : Nat) : Nat → Int32 := fun b => nI (clf P o b k).1
def lvG (P : Nat → Nat → Int32) (o : Nat → Nat) (k : Nat) : Nat → Int32 := fun b => oI (clf P o b k).2
/-- within a place: behind n of what its STEP READS -/
def lvH (P : Nat → Nat → Int32) (o : Nat → Nat) (k n : Nat) : Nat → Int32 := fun b => if (rdN P (o k) n b || nWt P (o k) == b) = true then nI k else lvG P o k b
/-- with what is WANTED among the first m BUFFERS -/
def lvW (P : Nat → Nat → Int32) (o : Nat → Nat) (m : Nat) : Nat → Int32 := fun b => if b < m then oI (clE P o b) else lvG P o (nS P) b
section C7
variable {d p : Nat} {h : abH} {Q : Option Value → abH → Prop}
set_option maxHeartbeats 8000000 in
theorem c87_30 (H : KC h) (hp : p = 5 ∨ p = 17) {P : Nat → Nat → Int32} (V : okP P) (T : TH h p P) {o : Nat → Nat} (ho : ∀ k, k < nS P → gI h 34 k = nI (o k) ∧ o k < nS P) {R : Prop} (hR : ∀ x y, aW d 87 126 [.ref 29, .int (nI (nS P)), x, y] [] (lvX h (lvF P o (nS P)) (lvG P o (nS P))) Q = R) {x y : Value} : aW d 87 30 [.ref 29, .int (nI 0), x, y] [] (lvX h (lvF P o 0) (lvG P o 0)) Q = R := by
  obtain ⟨C, r29⟩ := T
  have s10 := V.s.1
  have HMa : ∀ F G, KC (lvX h F G) := fun _ _ => H
  have CX : ∀ F G, CP (lvX h F G) p P := fun F G => CPg_of (fun q j h1 h2 => Fr_lv.2.2 q j (by unfold lvS; omega)) C
  have r3 : ∀ F G, gR (lvX h F G) 29 1 = .ref p := fun _ _ => r29
  have loop := for_ds (σ := Value × Value) (F := fun k x => aW d 87 30 [.ref 29, .int (nI k), x.1, x.2] [] (lvX h (lvF P o k) (lvG P o k)) Q) (R := fun _ => R) (nS P) (fun x => by
    have e4 := (CX (lvF P o (nS P)) (lvG P o (nS P))).s
    have r3 := r3 (lvF P o (nS P)) (lvG P o (nS P))
    rw [s87_30]
    simp (disch := first | omega | assumption | exact gtP (HMa _ _) hp | exact gt_29 (HMa _ _) | (simp only [gT_pA, gT_pI, gT_pR]; first | assumption | exact gtP (HMa _ _) hp | exact gt_29 (HMa _ _)) | fail) only [s87_0, s87_1, s87_2, s87_3, s87_5, s87_8, s87_9, s87_12, s87_13, s87_14, s87_15, s87_16, s87_19, s87_20, s87_21, s87_22, s87_25, s87_28, s87_29, s87_31, s87_32, s87_35, s87_38, s87_41, s87_42, s87_45, s87_46, s87_47, s87_48, s87_49, s87_52, s87_53, s87_56, s87_59, s87_60, s87_61, s87_62, s87_63, s87_64, s87_67, s87_68, s87_71, s87_74, s87_75, s87_76, s87_77, s87_78, s87_79, s87_80, s87_81, s87_83, s87_84, s87_85, s87_86, s87_87, s87_90, s87_93, s87_94, s87_95, s87_96, s87_99, s87_100, s87_103, s87_104, s87_107, s87_110, s87_111, s87_112, s87_113, s87_114, s87_117, s87_120, s87_123, s87_127, s87_129, s87_131, s87_134, s87_135, s87_138, s87_141, s87_142, s87_143, s87_146, s87_147, s87_150, s87_151, s87_152, s87_155, s87_158, s87_159, s87_160, s87_161, s87_164, s87_167, aiP_10 (HMa _ _) hp, aiP_11 (HMa _ _) hp, aiP_9 (HMa _ _) hp, ai_34 (HMa _ _), aj_37 (HMa _ _), aj_38 (HMa _ _), azP_4 (HMa _ _) hp, grP_10 (HMa _ _) hp, grP_11 (HMa _ _) hp, grP_3 (HMa _ _) hp, grP_9 (HMa _ _) hp, gr_29_4 (HMa _ _), gr_29_7 (HMa _ _), gr_29_8 (HMa _ _), gtP (HMa _ _) hp, gt_29 (HMa _ _), am87, isRf_ref, true_and, and_true, aPs_s, aPs_n, b01_0, b01_1, nI_clamp, ix_nI, inb_nI, lt_nI, eq_nI, nn_nI, eq0_nI, pk_mul, nI_add, lt_T, lt_F, if_true, if_false, true_and, and_true, neg1_nI, neg1_lt, neg1_neg, lt_neg1, eqN_F, eq_self,  r3, e4, Nat.lt_irrefl]
    exact hR _ _) (fun k hk ih x => by
    obtain ⟨o1, o2⟩ := ho k hk
    have e4 := (CX (lvF P o k) (lvG P o k)).s
    have e34 : gI (lvX h (lvF P o k) (lvG P o k)) 34 k = nI (o k) := o1
    have ew := (CX (lvF P o k) (lvG P o k)).w V o2
    have w12 := (V.w o2).2
    have ec := fun F G => (CX F G).c V o2
    have hc := (V.c o2).2
    have k10 : k < 10 := by omega
    have ok10 : o k < 10 := by omega
    -- what is WRITTEN
    have w7 := lvX_7 (h := h) (F := lvF P o k) (G := lvG P o k) (F' := lvF P o (k + 1)) (r := nWt P (o k)) (v := nI k) w12 (by unfold lvF; rw [clf]; simp only [if_true]) (fun b hb hne => by unfold lvF; rw [clf]; simp only [if_neg (Ne.symm hne)])
    have w8 := lvX_8 (h := h) (F := lvF P o (k + 1)) (G := lvG P o k) (G' := lvH P o k 0) (r := nWt P (o k)) (v := nI k) w12 (by unfold lvH; rw [if_pos (by rw [beq_self_eq_true, Bool.or_true])]) (fun b hb hne => by unfold lvH; rw [if_neg]; rw [show rdN P (o k) 0 b = false from rfl, Bool.false_or]; exact fun q => hne (beq_iff_eq.mp q).symm)
    have inner := for_0 (F := fun n => aW d 87 82 [.ref 29, .int (nI k), .int (nI (o k)), .int (nI (4 * o k + n))] [] (lvX h (lvF P o (k + 1)) (lvH P o k n)) Q) (R := R) (nRc P (o k)) (by
      have h1 : ¬ 4 * o k + nRc P (o k) < 4 * o k + nRc P (o k) := Nat.lt_irrefl _
      have r3 := r3 (lvF P o (k + 1)) (lvH P o k (nRc P (o k)))
      have ec := ec (lvF P o (k + 1)) (lvH P o k (nRc P (o k)))
      have ee : lvX h (lvF P o (k + 1)) (lvH P o k (nRc P (o k))) = lvX h (lvF P o (k + 1)) (lvG P o (k + 1)) := lvX_ext (fun _ _ => rfl) (fun b hb => by
        unfold lvH lvG
        rw [clf]
        simp only
        split
        · rfl
        · rfl)
      rw [s87_82]
      simp (disch := first | omega | assumption | exact gtP (HMa _ _) hp | exact gt_29 (HMa _ _) | (simp only [gT_pA, gT_pI, gT_pR]; first | assumption | exact gtP (HMa _ _) hp | exact gt_29 (HMa _ _)) | fail) only [s87_0, s87_1, s87_2, s87_3, s87_5, s87_8, s87_9, s87_12, s87_13, s87_14, s87_15, s87_16, s87_19, s87_20, s87_21, s87_22, s87_25, s87_28, s87_29, s87_31, s87_32, s87_35, s87_38, s87_41, s87_42, s87_45, s87_46, s87_47, s87_48, s87_49, s87_52, s87_53, s87_56, s87_59, s87_60, s87_61, s87_62, s87_63, s87_64, s87_67, s87_68, s87_71, s87_74, s87_75, s87_76, s87_77, s87_78, s87_79, s87_80, s87_81, s87_83, s87_84, s87_85, s87_86, s87_87, s87_90, s87_93, s87_94, s87_95, s87_96, s87_99, s87_100, s87_103, s87_104, s87_107, s87_110, s87_111, s87_112, s87_113, s87_114, s87_117, s87_120, s87_123, s87_127, s87_129, s87_131, s87_134, s87_135, s87_138, s87_141, s87_142, s87_143, s87_146, s87_147, s87_150, s87_151, s87_152, s87_155, s87_158, s87_159, s87_160, s87_161, s87_164, s87_167, aiP_10 (HMa _ _) hp, aiP_11 (HMa _ _) hp, aiP_9 (HMa _ _) hp, ai_34 (HMa _ _), aj_37 (HMa _ _), aj_38 (HMa _ _), azP_4 (HMa _ _) hp, grP_10 (HMa _ _) hp, grP_11 (HMa _ _) hp, grP_3 (HMa _ _) hp, grP_9 (HMa _ _) hp, gr_29_4 (HMa _ _), gr_29_7 (HMa _ _), gr_29_8 (HMa _ _), gtP (HMa _ _) hp, gt_29 (HMa _ _), am87, isRf_ref, true_and, and_true, aPs_s, aPs_n, b01_0, b01_1, nI_clamp, ix_nI, inb_nI, lt_nI, eq_nI, nn_nI, eq0_nI, pk_mul, nI_add, lt_T, lt_F, if_true, if_false, true_and, and_true, neg1_nI, neg1_lt, neg1_neg, lt_neg1, eqN_F, eq_self,  r3, ec, Nat.mul_comm (o k) 4, h1]
      rw [ee]
      exact ih (.int (nI (o k)), .int (nI (4 * o k + nRc P (o k))))) (fun n hn => by
      have h1 : 4 * o k + n < 4 * o k + nRc P (o k) := by omega
      have r3 := r3 (lvF P o (k + 1)) (lvH P o k n)
      have ec := ec (lvF P o (k + 1)) (lvH P o k n)
      have er := (CX (lvF P o (k + 1)) (lvH P o k n)).r V o2 hn
      have hr := (V.r o2 hn).2
      have er2 := (V.r o2 hn).1
      have w8 := lvX_8 (h := h) (F := lvF P o (k + 1)) (G := lvH P o k n) (G' := lvH P o k (n + 1)) (r := nRd P (o k) n) (v := nI k) hr (by unfold lvH; rw [if_pos]; rw [rdN_up, er2, beq_self_eq_true, Bool.or_true, Bool.true_or]) (fun b hb hne => by
        unfold lvH
        rw [rdN_up, er2]
        have : (nI (nRd P (o k) n) == nI b) = false := by
          apply beq_eq_false_iff_ne.mpr
          intro q
          exact hne (((eq_nI (by omega) (by omega)).mp q).symm)
        rw [this, Bool.or_false])
      rw [s87_82]
      simp (disch := first | omega | assumption | exact gtP (HMa _ _) hp | exact gt_29 (HMa _ _) | (simp only [gT_pA, gT_pI, gT_pR]; first | assumption | exact gtP (HMa _ _) hp | exact gt_29 (HMa _ _)) | fail) only [s87_0, s87_1, s87_2, s87_3, s87_5, s87_8, s87_9, s87_12, s87_13, s87_14, s87_15, s87_16, s87_19, s87_20, s87_21, s87_22, s87_25, s87_28, s87_29, s87_31, s87_32, s87_35, s87_38, s87_41, s87_42, s87_45, s87_46, s87_47, s87_48, s87_49, s87_52, s87_53, s87_56, s87_59, s87_60, s87_61, s87_62, s87_63, s87_64, s87_67, s87_68, s87_71, s87_74, s87_75, s87_76, s87_77, s87_78, s87_79, s87_80, s87_81, s87_83, s87_84, s87_85, s87_86, s87_87, s87_90, s87_93, s87_94, s87_95, s87_96, s87_99, s87_100, s87_103, s87_104, s87_107, s87_110, s87_111, s87_112, s87_113, s87_114, s87_117, s87_120, s87_123, s87_127, s87_129, s87_131, s87_134, s87_135, s87_138, s87_141, s87_142, s87_143, s87_146, s87_147, s87_150, s87_151, s87_152, s87_155, s87_158, s87_159, s87_160, s87_161, s87_164, s87_167, aiP_10 (HMa _ _) hp, aiP_11 (HMa _ _) hp, aiP_9 (HMa _ _) hp, ai_34 (HMa _ _), aj_37 (HMa _ _), aj_38 (HMa _ _), azP_4 (HMa _ _) hp, grP_10 (HMa _ _) hp, grP_11 (HMa _ _) hp, grP_3 (HMa _ _) hp, grP_9 (HMa _ _) hp, gr_29_4 (HMa _ _), gr_29_7 (HMa _ _), gr_29_8 (HMa _ _), gtP (HMa _ _) hp, gt_29 (HMa _ _), am87, isRf_ref, true_and, and_true, aPs_s, aPs_n, b01_0, b01_1, nI_clamp, ix_nI, inb_nI, lt_nI, eq_nI, nn_nI, eq0_nI, pk_mul, nI_add, lt_T, lt_F, if_true, if_false, true_and, and_true, neg1_nI, neg1_lt, neg1_neg, lt_neg1, eqN_F, eq_self,  r3, ec, Nat.mul_comm (o k) 4, h1, er, hr, w8, Nat.add_assoc])
    have r3a := r3 (lvF P o k) (lvG P o k)
    have r3b := r3 (lvF P o (k + 1)) (lvG P o k)
    have r3c := r3 (lvF P o (k + 1)) (lvH P o k 0)
    have ew2 := (CX (lvF P o (k + 1)) (lvG P o k)).w V o2
    rw [s87_30]
    simp (disch := first | omega | assumption | exact gtP (HMa _ _) hp | exact gt_29 (HMa _ _) | (simp only [gT_pA, gT_pI, gT_pR]; first | assumption | exact gtP (HMa _ _) hp | exact gt_29 (HMa _ _)) | fail) only [s87_0, s87_1, s87_2, s87_3, s87_5, s87_8, s87_9, s87_12, s87_13, s87_14, s87_15, s87_16, s87_19, s87_20, s87_21, s87_22, s87_25, s87_28, s87_29, s87_31, s87_32, s87_35, s87_38, s87_41, s87_42, s87_45, s87_46, s87_47, s87_48, s87_49, s87_52, s87_53, s87_56, s87_59, s87_60, s87_61, s87_62, s87_63, s87_64, s87_67, s87_68, s87_71, s87_74, s87_75, s87_76, s87_77, s87_78, s87_79, s87_80, s87_81, s87_83, s87_84, s87_85, s87_86, s87_87, s87_90, s87_93, s87_94, s87_95, s87_96, s87_99, s87_100, s87_103, s87_104, s87_107, s87_110, s87_111, s87_112, s87_113, s87_114, s87_117, s87_120, s87_123, s87_127, s87_129, s87_131, s87_134, s87_135, s87_138, s87_141, s87_142, s87_143, s87_146, s87_147, s87_150, s87_151, s87_152, s87_155, s87_158, s87_159, s87_160, s87_161, s87_164, s87_167, aiP_10 (HMa _ _) hp, aiP_11 (HMa _ _) hp, aiP_9 (HMa _ _) hp, ai_34 (HMa _ _), aj_37 (HMa _ _), aj_38 (HMa _ _), azP_4 (HMa _ _) hp, grP_10 (HMa _ _) hp, grP_11 (HMa _ _) hp, grP_3 (HMa _ _) hp, grP_9 (HMa _ _) hp, gr_29_4 (HMa _ _), gr_29_7 (HMa _ _), gr_29_8 (HMa _ _), gtP (HMa _ _) hp, gt_29 (HMa _ _), am87, isRf_ref, true_and, and_true, aPs_s, aPs_n, b01_0, b01_1, nI_clamp, ix_nI, inb_nI, lt_nI, eq_nI, nn_nI, eq0_nI, pk_mul, nI_add, lt_T, lt_F, if_true, if_false, true_and, and_true, neg1_nI, neg1_lt, neg1_neg, lt_neg1, eqN_F, eq_self,  r3a, e4, hk, e34, ew, w12, w7, r3b, ew2, w8, Nat.mul_comm (o k) 4]
    exact inner)
  exact loop 0 (Nat.zero_le _) (x, y)
set_option maxHeartbeats 8000000 in
theorem c87 (H : KC h) (hp : p = 5 ∨ p = 17) {P : Nat → Nat → Int32} (W : okW P) (T : TH h p P) {o : Nat → Nat} (ho : ∀ k, k < nS P → gI h 34 k = nI (o k) ∧ o k < nS P) : aM d 87 [.ref 29] h Q = Q none (lvX h (fun b => nI (fr P o b)) (fun b => oI (ti P o b))) := by
  have V := W.1
  have C := T.1
  have r29 := T.2
  have s10 := V.s.1
  have HMa : ∀ F G, KC (lvX h F G) := fun _ _ => H
  have CX : ∀ F G, CP (lvX h F G) p P := fun F G => CPg_of (fun q j h1 h2 => Fr_lv.2.2 q j (by unfold lvS; omega)) C
  have r3 : ∀ F G, gR (lvX h F G) 29 1 = .ref p := fun _ _ => r29
  have last : ∀ x y, aW d 87 126 [.ref 29, .int (nI (nS P)), x, y] [] (lvX h (lvF P o (nS P)) (lvG P o (nS P))) Q = Q none (lvX h (fun b => nI (fr P o b)) (fun b => oI (ti P o b))) := by
    intro x y
    have loop := for_0 (F := fun b => aW d 87 128 [.ref 29, .int (nI b), x, y] [] (lvX h (lvF P o (nS P)) (lvW P o b)) Q) (R := Q none (lvX h (fun b => nI (fr P o b)) (fun b => oI (ti P o b)))) 12 (by
      have ee : lvX h (lvF P o (nS P)) (lvW P o 12) = lvX h (fun b => nI (fr P o b)) (fun b => oI (ti P o b)) := lvX_ext (fun b hb => by
        unfold lvF
        rw [(cl_lf W (fun k hk => (ho k hk).2) hb).1]) (fun b hb => by
        unfold lvW
        rw [if_pos hb, (cl_lf W (fun k hk => (ho k hk).2) hb).2])
      rw [s87_128]
      simp (disch := first | omega | assumption | exact gtP (HMa _ _) hp | exact gt_29 (HMa _ _) | (simp only [gT_pA, gT_pI, gT_pR]; first | assumption | exact gtP (HMa _ _) hp | exact gt_29 (HMa _ _)) | fail) only [s87_0, s87_1, s87_2, s87_3, s87_5, s87_8, s87_9, s87_12, s87_13, s87_14, s87_15, s87_16, s87_19, s87_20, s87_21, s87_22, s87_25, s87_28, s87_29, s87_31, s87_32, s87_35, s87_38, s87_41, s87_42, s87_45, s87_46, s87_47, s87_48, s87_49, s87_52, s87_53, s87_56, s87_59, s87_60, s87_61, s87_62, s87_63, s87_64, s87_67, s87_68, s87_71, s87_74, s87_75, s87_76, s87_77, s87_78, s87_79, s87_80, s87_81, s87_83, s87_84, s87_85, s87_86, s87_87, s87_90, s87_93, s87_94, s87_95, s87_96, s87_99, s87_100, s87_103, s87_104, s87_107, s87_110, s87_111, s87_112, s87_113, s87_114, s87_117, s87_120, s87_123, s87_127, s87_129, s87_131, s87_134, s87_135, s87_138, s87_141, s87_142, s87_143, s87_146, s87_147, s87_150, s87_151, s87_152, s87_155, s87_158, s87_159, s87_160, s87_161, s87_164, s87_167, aiP_10 (HMa _ _) hp, aiP_11 (HMa _ _) hp, aiP_9 (HMa _ _) hp, ai_34 (HMa _ _), aj_37 (HMa _ _), aj_38 (HMa _ _), azP_4 (HMa _ _) hp, grP_10 (HMa _ _) hp, grP_11 (HMa _ _) hp, grP_3 (HMa _ _) hp, grP_9 (HMa _ _) hp, gr_29_4 (HMa _ _), gr_29_7 (HMa _ _), gr_29_8 (HMa _ _), gtP (HMa _ _) hp, gt_29 (HMa _ _), am87, isRf_ref, true_and, and_true, aPs_s, aPs_n, b01_0, b01_1, nI_clamp, ix_nI, inb_nI, lt_nI, eq_nI, nn_nI, eq0_nI, pk_mul, nI_add, lt_T, lt_F, if_true, if_false, true_and, and_true, neg1_nI, neg1_lt, neg1_neg, lt_neg1, eqN_F, eq_self,  Nat.lt_irrefl, ee]) (fun b hb => by
      have r3 := r3 (lvF P o (nS P)) (lvW P o b)
      have ev := (CX (lvF P o (nS P)) (lvW P o b)).v hb
      have e4 := (CX (lvF P o (nS P)) (lvW P o b)).s
      rw [s87_128]
      by_cases h72 : P 72 b = 0
      · have ee : lvX h (lvF P o (nS P)) (lvW P o b) = lvX h (lvF P o (nS P)) (lvW P o (b + 1)) := lvX_ext (fun _ _ => rfl) (fun j hj => by
          unfold lvW
          by_cases e : j = b
          · subst e
            rw [if_neg (by omega), if_pos (by omega)]
            unfold clE lvG
            rw [if_pos h72]
          · by_cases e2 : j < b
            · rw [if_pos e2, if_pos (by omega)]
            · rw [if_neg e2, if_neg (by omega)])
        simp (disch := first | omega | assumption | exact gtP (HMa _ _) hp | exact gt_29 (HMa _ _) | (simp only [gT_pA, gT_pI, gT_pR]; first | assumption | exact gtP (HMa _ _) hp | exact gt_29 (HMa _ _)) | fail) only [s87_0, s87_1, s87_2, s87_3, s87_5, s87_8, s87_9, s87_12, s87_13, s87_14, s87_15, s87_16, s87_19, s87_20, s87_21, s87_22, s87_25, s87_28, s87_29, s87_31, s87_32, s87_35, s87_38, s87_41, s87_42, s87_45, s87_46, s87_47, s87_48, s87_49, s87_52, s87_53, s87_56, s87_59, s87_60, s87_61, s87_62, s87_63, s87_64, s87_67, s87_68, s87_71, s87_74, s87_75, s87_76, s87_77, s87_78, s87_79, s87_80, s87_81, s87_83, s87_84, s87_85, s87_86, s87_87, s87_90, s87_93, s87_94, s87_95, s87_96, s87_99, s87_100, s87_103, s87_104, s87_107, s87_110, s87_111, s87_112, s87_113, s87_114, s87_117, s87_120, s87_123, s87_127, s87_129, s87_131, s87_134, s87_135, s87_138, s87_141, s87_142, s87_143, s87_146, s87_147, s87_150, s87_151, s87_152, s87_155, s87_158, s87_159, s87_160, s87_161, s87_164, s87_167, aiP_10 (HMa _ _) hp, aiP_11 (HMa _ _) hp, aiP_9 (HMa _ _) hp, ai_34 (HMa _ _), aj_37 (HMa _ _), aj_38 (HMa _ _), azP_4 (HMa _ _) hp, grP_10 (HMa _ _) hp, grP_11 (HMa _ _) hp, grP_3 (HMa _ _) hp, grP_9 (HMa _ _) hp, gr_29_4 (HMa _ _), gr_29_7 (HMa _ _), gr_29_8 (HMa _ _), gtP (HMa _ _) hp, gt_29 (HMa _ _), am87, isRf_ref, true_and, and_true, aPs_s, aPs_n, b01_0, b01_1, nI_clamp, ix_nI, inb_nI, lt_nI, eq_nI, nn_nI, eq0_nI, pk_mul, nI_add, lt_T, lt_F, if_true, if_false, true_and, and_true, neg1_nI, neg1_lt, neg1_neg, lt_neg1, eqN_F, eq_self,  r3, hb, ev, eq_true h72]
        rw [ee]
      · have e9 : nI (nS P) - nI 1 = oI (clE P o b) := by
          unfold clE
          rw [if_neg h72]
          by_cases hn : nS P = 0
          · rw [if_pos hn, hn]; rfl
          · rw [if_neg hn, pk_sub (by omega)]; rfl
        have w8 := lvX_8 (h := h) (F := lvF P o (nS P)) (G := lvW P o b) (G' := lvW P o (b + 1)) (r := b) (v := oI (clE P o b)) hb (by unfold lvW; rw [if_pos (by omega)]) (fun j hj hne => by
          unfold lvW
          by_cases e2 : j < b
          · rw [if_pos e2, if_pos (by omega)]
          · rw [if_neg e2, if_neg (by omega)])
        simp (disch := first | omega | assumption | exact gtP (HMa _ _) hp | exact gt_29 (HMa _ _) | (simp only [gT_pA, gT_pI, gT_pR]; first | assumption | exact gtP (HMa _ _) hp | exact gt_29 (HMa _ _)) | fail) only [s87_0, s87_1, s87_2, s87_3, s87_5, s87_8, s87_9, s87_12, s87_13, s87_14, s87_15, s87_16, s87_19, s87_20, s87_21, s87_22, s87_25, s87_28, s87_29, s87_31, s87_32, s87_35, s87_38, s87_41, s87_42, s87_45, s87_46, s87_47, s87_48, s87_49, s87_52, s87_53, s87_56, s87_59, s87_60, s87_61, s87_62, s87_63, s87_64, s87_67, s87_68, s87_71, s87_74, s87_75, s87_76, s87_77, s87_78, s87_79, s87_80, s87_81, s87_83, s87_84, s87_85, s87_86, s87_87, s87_90, s87_93, s87_94, s87_95, s87_96, s87_99, s87_100, s87_103, s87_104, s87_107, s87_110, s87_111, s87_112, s87_113, s87_114, s87_117, s87_120, s87_123, s87_127, s87_129, s87_131, s87_134, s87_135, s87_138, s87_141, s87_142, s87_143, s87_146, s87_147, s87_150, s87_151, s87_152, s87_155, s87_158, s87_159, s87_160, s87_161, s87_164, s87_167, aiP_10 (HMa _ _) hp, aiP_11 (HMa _ _) hp, aiP_9 (HMa _ _) hp, ai_34 (HMa _ _), aj_37 (HMa _ _), aj_38 (HMa _ _), azP_4 (HMa _ _) hp, grP_10 (HMa _ _) hp, grP_11 (HMa _ _) hp, grP_3 (HMa _ _) hp, grP_9 (HMa _ _) hp, gr_29_4 (HMa _ _), gr_29_7 (HMa _ _), gr_29_8 (HMa _ _), gtP (HMa _ _) hp, gt_29 (HMa _ _), am87, isRf_ref, true_and, and_true, aPs_s, aPs_n, b01_0, b01_1, nI_clamp, ix_nI, inb_nI, lt_nI, eq_nI, nn_nI, eq0_nI, pk_mul, nI_add, lt_T, lt_F, if_true, if_false, true_and, and_true, neg1_nI, neg1_lt, neg1_neg, lt_neg1, eqN_F, eq_self,  r3, hb, ev, eq_false h72, e4, e9, w8])
    have e0 : lvX h (lvF P o (nS P)) (lvG P o (nS P)) = lvX h (lvF P o (nS P)) (lvW P o 0) := lvX_ext (fun _ _ => rfl) (fun b hb => by
      unfold lvW
      rw [if_neg (by omega)])
    rw [e0, s87_126]
    simp (disch := first | omega | assumption | exact gtP (HMa _ _) hp | exact gt_29 (HMa _ _) | (simp only [gT_pA, gT_pI, gT_pR]; first | assumption | exact gtP (HMa _ _) hp | exact gt_29 (HMa _ _)) | fail) only [s87_0, s87_1, s87_2, s87_3, s87_5, s87_8, s87_9, s87_12, s87_13, s87_14, s87_15, s87_16, s87_19, s87_20, s87_21, s87_22, s87_25, s87_28, s87_29, s87_31, s87_32, s87_35, s87_38, s87_41, s87_42, s87_45, s87_46, s87_47, s87_48, s87_49, s87_52, s87_53, s87_56, s87_59, s87_60, s87_61, s87_62, s87_63, s87_64, s87_67, s87_68, s87_71, s87_74, s87_75, s87_76, s87_77, s87_78, s87_79, s87_80, s87_81, s87_83, s87_84, s87_85, s87_86, s87_87, s87_90, s87_93, s87_94, s87_95, s87_96, s87_99, s87_100, s87_103, s87_104, s87_107, s87_110, s87_111, s87_112, s87_113, s87_114, s87_117, s87_120, s87_123, s87_127, s87_129, s87_131, s87_134, s87_135, s87_138, s87_141, s87_142, s87_143, s87_146, s87_147, s87_150, s87_151, s87_152, s87_155, s87_158, s87_159, s87_160, s87_161, s87_164, s87_167, aiP_10 (HMa _ _) hp, aiP_11 (HMa _ _) hp, aiP_9 (HMa _ _) hp, ai_34 (HMa _ _), aj_37 (HMa _ _), aj_38 (HMa _ _), azP_4 (HMa _ _) hp, grP_10 (HMa _ _) hp, grP_11 (HMa _ _) hp, grP_3 (HMa _ _) hp, grP_9 (HMa _ _) hp, gr_29_4 (HMa _ _), gr_29_7 (HMa _ _), gr_29_8 (HMa _ _), gtP (HMa _ _) hp, gt_29 (HMa _ _), am87, isRf_ref, true_and, and_true, aPs_s, aPs_n, b01_0, b01_1, nI_clamp, ix_nI, inb_nI, lt_nI, eq_nI, nn_nI, eq0_nI, pk_mul, nI_add, lt_T, lt_F, if_true, if_false, true_and, and_true, neg1_nI, neg1_lt, neg1_neg, lt_neg1, eqN_F, eq_self, ]
    exact loop
  have loop1 := for_0 (F := fun b => aW d 87 2 [.ref 29, .int (nI b), .retAddr 0, .retAddr 0] [] (pA (pA h 37 (pre (fun _ => nI 0) b (gI h 37))) 38 (pre (fun _ => -1) b (gI h 38))) Q) (R := Q none (lvX h (fun b => nI (fr P o b)) (fun b => oI (ti P o b)))) 12 (by
    have main := c87_30 (d := d) (Q := Q) H hp V T ho (R := Q none (lvX h (fun b => nI (fr P o b)) (fun b => oI (ti P o b)))) last (x := .retAddr 0) (y := .retAddr 0)
    have HM2 : KC (pA (pA h 37 (pre (fun _ => nI 0) 12 (gI h 37))) 38 (pre (fun _ => -1) 12 (gI h 38))) := H
    rw [s87_2]
    simp (disch := first | omega | assumption | exact gtP HM2 hp | exact gt_29 HM2 | (simp only [gT_pA, gT_pI, gT_pR]; first | assumption | exact gtP HM2 hp | exact gt_29 HM2) | fail) only [s87_0, s87_1, s87_3, s87_5, s87_8, s87_9, s87_12, s87_13, s87_14, s87_15, s87_16, s87_19, s87_20, s87_21, s87_22, s87_25, s87_28, s87_29, s87_31, s87_32, s87_35, s87_38, s87_41, s87_42, s87_45, s87_46, s87_47, s87_48, s87_49, s87_52, s87_53, s87_56, s87_59, s87_60, s87_61, s87_62, s87_63, s87_64, s87_67, s87_68, s87_71, s87_74, s87_75, s87_76, s87_77, s87_78, s87_79, s87_80, s87_81, s87_83, s87_84, s87_85, s87_86, s87_87, s87_90, s87_93, s87_94, s87_95, s87_96, s87_99, s87_100, s87_103, s87_104, s87_107, s87_110, s87_111, s87_112, s87_113, s87_114, s87_117, s87_120, s87_123, s87_127, s87_129, s87_131, s87_134, s87_135, s87_138, s87_141, s87_142, s87_143, s87_146, s87_147, s87_150, s87_151, s87_152, s87_155, s87_158, s87_159, s87_160, s87_161, s87_164, s87_167, aiP_10 HM2 hp, aiP_11 HM2 hp, aiP_9 HM2 hp, ai_34 HM2, aj_37 HM2, aj_38 HM2, azP_4 HM2 hp, grP_10 HM2 hp, grP_11 HM2 hp, grP_3 HM2 hp, grP_9 HM2 hp, gr_29_4 HM2, gr_29_7 HM2, gr_29_8 HM2, gtP HM2 hp, gt_29 HM2, am87, isRf_ref, true_and, and_true, aPs_s, aPs_n, b01_0, b01_1, nI_clamp, ix_nI, inb_nI, lt_nI, eq_nI, nn_nI, eq0_nI, pk_mul, nI_add, lt_T, lt_F, if_true, if_false, true_and, and_true, neg1_nI, neg1_lt, neg1_neg, lt_neg1, eqN_F, eq_self,  Nat.lt_irrefl]
    exact main) (fun b hb => by
    have HM2 : KC (pA (pA h 37 (pre (fun _ => nI 0) b (gI h 37))) 38 (pre (fun _ => -1) b (gI h 38))) := H
    have w1 : pI (pA (pA h 37 (pre (fun _ => nI 0) b (gI h 37))) 38 (pre (fun _ => -1) b (gI h 38))) 37 b (nI 0) = pA (pA h 37 (pre (fun _ => nI 0) (b + 1) (gI h 37))) 38 (pre (fun _ => -1) b (gI h 38)) := by
      rw [pI_def, gI_ne (by decide), gI_eq, pre_upd (g := fun _ => nI 0), pA_sw (by decide), pA_pA]
    have HM3 : KC (pA (pA h 37 (pre (fun _ => nI 0) (b + 1) (gI h 37))) 38 (pre (fun _ => -1) b (gI h 38))) := H
    have t29 := gt_29 HM3
    have g38 := gr_29_8 HM3
    have a38 := aj_38 HM3
    have w2 := pre_pI (h := pA h 37 (pre (fun _ => nI 0) (b + 1) (gI h 37))) (o := 38) (X := fun _ => -1) (k := b) (G := gI h 38) (x := -1) rfl
    rw [s87_2]
    simp (disch := first | omega | assumption | exact gtP HM2 hp | exact gt_29 HM2 | (simp only [gT_pA, gT_pI, gT_pR]; first | assumption | exact gtP HM2 hp | exact gt_29 HM2) | fail) only [s87_0, s87_1, s87_3, s87_5, s87_8, s87_9, s87_12, s87_13, s87_14, s87_15, s87_16, s87_19, s87_20, s87_21, s87_22, s87_25, s87_28, s87_29, s87_31, s87_32, s87_35, s87_38, s87_41, s87_42, s87_45, s87_46, s87_47, s87_48, s87_49, s87_52, s87_53, s87_56, s87_59, s87_60, s87_61, s87_62, s87_63, s87_64, s87_67, s87_68, s87_71, s87_74, s87_75, s87_76, s87_77, s87_78, s87_79, s87_80, s87_81, s87_83, s87_84, s87_85, s87_86, s87_87, s87_90, s87_93, s87_94, s87_95, s87_96, s87_99, s87_100, s87_103, s87_104, s87_107, s87_110, s87_111, s87_112, s87_113, s87_114, s87_117, s87_120, s87_123, s87_127, s87_129, s87_131, s87_134, s87_135, s87_138, s87_141, s87_142, s87_143, s87_146, s87_147, s87_150, s87_151, s87_152, s87_155, s87_158, s87_159, s87_160, s87_161, s87_164, s87_167, aiP_10 HM2 hp, aiP_11 HM2 hp, aiP_9 HM2 hp, ai_34 HM2, aj_37 HM2, aj_38 HM2, azP_4 HM2 hp, grP_10 HM2 hp, grP_11 HM2 hp, grP_3 HM2 hp, grP_9 HM2 hp, gr_29_4 HM2, gr_29_7 HM2, gr_29_8 HM2, gtP HM2 hp, gt_29 HM2, am87, isRf_ref, true_and, and_true, aPs_s, aPs_n, b01_0, b01_1, nI_clamp, ix_nI, inb_nI, lt_nI, eq_nI, nn_nI, eq0_nI, pk_mul, nI_add, lt_T, lt_F, if_true, if_false, true_and, and_true, neg1_nI, neg1_lt, neg1_neg, lt_neg1, eqN_F, eq_self,  hb, w1, t29, g38, a38, w2])
  have e0 : pA (pA h 37 (pre (fun _ => nI 0) 0 (gI h 37))) 38 (pre (fun _ => -1) 0 (gI h 38)) = h := by
    rw [pre_0, pre_0, pA_self, pA_self]
  rw [e0] at loop1
  simp (disch := first | omega | assumption | exact gtP H hp | exact gt_29 H | (simp only [gT_pA, gT_pI, gT_pR]; first | assumption | exact gtP H hp | exact gt_29 H) | fail) only [s87_0, s87_1, s87_3, s87_5, s87_8, s87_9, s87_12, s87_13, s87_14, s87_15, s87_16, s87_19, s87_20, s87_21, s87_22, s87_25, s87_28, s87_29, s87_31, s87_32, s87_35, s87_38, s87_41, s87_42, s87_45, s87_46, s87_47, s87_48, s87_49, s87_52, s87_53, s87_56, s87_59, s87_60, s87_61, s87_62, s87_63, s87_64, s87_67, s87_68, s87_71, s87_74, s87_75, s87_76, s87_77, s87_78, s87_79, s87_80, s87_81, s87_83, s87_84, s87_85, s87_86, s87_87, s87_90, s87_93, s87_94, s87_95, s87_96, s87_99, s87_100, s87_103, s87_104, s87_107, s87_110, s87_111, s87_112, s87_113, s87_114, s87_117, s87_120, s87_123, s87_127, s87_129, s87_131, s87_134, s87_135, s87_138, s87_141, s87_142, s87_143, s87_146, s87_147, s87_150, s87_151, s87_152, s87_155, s87_158, s87_159, s87_160, s87_161, s87_164, s87_167, aiP_10 H hp, aiP_11 H hp, aiP_9 H hp, ai_34 H, aj_37 H, aj_38 H, azP_4 H hp, grP_10 H hp, grP_11 H hp, grP_3 H hp, grP_9 H hp, gr_29_4 H, gr_29_7 H, gr_29_8 H, gtP H hp, gt_29 H, am87, isRf_ref, true_and, and_true, aPs_s, aPs_n, b01_0, b01_1, nI_clamp, ix_nI, inb_nI, lt_nI, eq_nI, nn_nI, eq0_nI, pk_mul, nI_add, lt_T, lt_F, if_true, if_false, true_and, and_true, neg1_nI, neg1_lt, neg1_neg, lt_neg1, eqN_F, eq_self, ]
  exact loop1
/-- the heap that shows OVER and LOAD at the first places -/
def ldX (h : abH) (P : Nat → Nat → Int32) (o : Nat → Nat) (k : Nat) : abH := pA (pA h 35 (pre (fun k => oI (mOv P o k)) k (gI h 35))) 36 (pre (fun k => nI (zLd P o k)) k (gI h 36))
def ldS : Nat → Nat → Prop := fun o _ => o = 35 ∨ o = 36
theorem Fr_ld {P : Nat → Nat → Int32} {o : Nat → Nat} {k : Nat} : Fr ldS noT h (ldX h P o k) := Fr_trans (Fr_pA (fun k => Or.inl rfl)) (Fr_pA (fun k => Or.inr rfl))
set_option maxHeartbeats 8000000 in
theorem c88 (H : KC h) (hp : p = 5 ∨ p = 17) {P : Nat → Nat → Int32} (W : okW P) (T : TH h p P) (L : LH h p P) {o : Nat → Nat} (O : ordV P o) (ho : ∀ k, k < nS P → gI h 34 k = nI (o k)) : aM (d + 3) 88 [.ref 29] h Q = Q none (ldX h P o (nS P)) := by
  have V := W.1
  obtain ⟨C, r29⟩ := T
  have s10 := V.s.1
  have HMa : ∀ k, KC (ldX h P o k) := fun _ => H
  have loop := for_ds (σ := Value) (F := fun k x => aW (d + 3) 88 4 [.ref 29, .int (nI (obt o k)), .int (nI k), x] [] (ldX h P o k) Q) (R := fun _ => Q none (ldX h P o (nS P))) (nS P) (fun x => by
    have CX : CP (ldX h P o (nS P)) p P := CPg_of (fun q j h1 h2 => Fr_ld.2.2 q j (by unfold ldS; omega)) C
    have e4 := CX.s
    have r3 : gR (ldX h P o (nS P)) 29 1 = .ref p := r29
    rw [s88_4]
    simp (disch := first | omega | assumption | exact gtP (HMa _) hp | exact gt_29 (HMa _) | exact gt_30 (HMa _) | (simp only [gT_pA, gT_pI, gT_pR]; first | assumption | exact gtP (HMa _) hp | exact gt_29 (HMa _) | exact gt_30 (HMa _)) | fail) only [s88_0, s88_1, s88_2, s88_3, s88_5, s88_6, s88_9, s88_12, s88_15, s88_16, s88_19, s88_20, s88_21, s88_22, s88_23, s88_26, s88_27, s88_28, s88_31, s88_32, s88_33, s88_36, s88_37, s88_38, s88_41, s88_42, s88_43, s88_46, s88_47, s88_48, s88_49, s88_52, s88_53, s88_56, s88_59, s88_60, s88_61, s88_62, s88_63, s88_64, s88_65, s88_66, s88_69, s88_72, ai_34 (HMa _), aj_35 (HMa _), aj_36 (HMa _), gr_29_0 (HMa _), gr_29_4 (HMa _), gr_29_5 (HMa _), gr_29_6 (HMa _), gtP (HMa _) hp, gt_29 (HMa _), gt_30 (HMa _), am88, isRf_ref, true_and, and_true, aPs_s, aPs_n, b01_0, b01_1, nI_clamp, ix_nI, inb_nI, lt_nI, eq_nI, nn_nI, eq0_nI, pk_mul, nI_add, lt_T, lt_F, if_true, if_false, true_and, and_true, neg1_nI, neg1_lt, neg1_neg, lt_neg1, eqN_F, eq_self,  r3, e4, Nat.lt_irrefl]) (fun k hk ih x => by
    have CX : CP (ldX h P o k) p P := CPg_of (fun q j h1 h2 => Fr_ld.2.2 q j (by unfold ldS; omega)) C
    have e4 := CX.s
    have r3 : gR (ldX h P o k) 29 1 = .ref p := r29
    have LX : LH (ldX h P o k) p P := ⟨CX, L.2.1, L.2.2⟩
    have e34 : gI (ldX h P o k) 34 k = nI (o k) := ho k hk
    have o2 := (O k hk).1
    have k10 : k < 10 := by omega
    have ok10 : o k < 10 := by omega
    have hD : obt o k < 1024 := Nat.lt_of_lt_of_le (obt_lt O (by omega)) (Nat.pow_le_pow_right (n := 2) (by decide) s10)
    have c27' : ∀ Q', aM (d + 2) 27 [.ref 30, .int (nI (obt o k)), .int (nI (o k))] (ldX h P o k) Q' = Q' (some (.int (oI (mOv P o k)))) (ldX h P o k) := fun Q' => by rw [c27 (HMa k) hp V LX o2 hD, ov_o W O hk]
    have w1 : pI (ldX h P o k) 35 k (oI (mOv P o k)) = pA (pA h 35 (pre (fun k => oI (mOv P o k)) (k + 1) (gI h 35))) 36 (pre (fun k => nI (zLd P o k)) k (gI h 36)) := by
      unfold ldX
      rw [pI_def, gI_ne (by decide), gI_eq, pre_upd (g := fun k => oI (mOv P o k)), pA_sw (by decide), pA_pA]
    generalize hX : pA (pA h 35 (pre (fun k => oI (mOv P o k)) (k + 1) (gI h 35))) 36 (pre (fun k => nI (zLd P o k)) k (gI h 36)) = X at w1
    have HX : KC X := by rw [← hX]; exact H
    have CX2 : CP X p P := by
      rw [← hX]
      exact CPg_of (fun q j h1 h2 => by rw [gI_ne (by omega), gI_ne (by omega)]) C
    have LX2 : LH X p P := ⟨CX2, by rw [← hX]; exact L.2.1, by rw [← hX]; exact L.2.2⟩
    have c29' : ∀ Q', aM (d + 2) 29 [.ref 30, .int (nI (obt o k))] X Q' = Q' (some (.int (nI (zHd P (obt o k) 12)))) X := fun Q' => c29 HX hp V LX2 hD
    have hz := zHd_le V (D := obt o k) (Nat.le_refl 12)
    have c30' : ∀ Q', aM (d + 2) 30 [.ref 30, .int (nI (obt o k)), .int (nI (o k)), .int (nI (zHd P (obt o k) 12))] X Q' = Q' (some (.int (nI (zLd P o k)))) X := fun Q' => by rw [c30 HX hp V LX2 o2 hD (by omega), ← zLd_cl W O hk]
    have w2 : pI X 36 k (nI (zLd P o k)) = ldX h P o (k + 1) := by
      rw [← hX]
      exact pre_pI (h := pA h 35 (pre (fun k => oI (mOv P o k)) (k + 1) (gI h 35))) (o := 36) (X := fun k => nI (zLd P o k)) (k := k) (G := gI h 36) rfl
    have tX := gt_29 HX
    have t30 := gt_30 HX
    have r30 := gr_29_0 HX
    have r36 := gr_29_6 HX
    have a36 := aj_36 HX
    rw [s88_4]
    simp (disch := first | omega | assumption | exact gtP (HMa _) hp | exact gt_29 (HMa _) | exact gt_30 (HMa _) | (simp only [gT_pA, gT_pI, gT_pR]; first | assumption | exact gtP (HMa _) hp | exact gt_29 (HMa _) | exact gt_30 (HMa _)) | fail) only [s88_0, s88_1, s88_2, s88_3, s88_5, s88_6, s88_9, s88_12, s88_15, s88_16, s88_19, s88_20, s88_21, s88_22, s88_23, s88_26, s88_27, s88_28, s88_31, s88_32, s88_33, s88_36, s88_37, s88_38, s88_41, s88_42, s88_43, s88_46, s88_47, s88_48, s88_49, s88_52, s88_53, s88_56, s88_59, s88_60, s88_61, s88_62, s88_63, s88_64, s88_65, s88_66, s88_69, s88_72, ai_34 (HMa _), aj_35 (HMa _), aj_36 (HMa _), gr_29_0 (HMa _), gr_29_4 (HMa _), gr_29_5 (HMa _), gr_29_6 (HMa _), gtP (HMa _) hp, gt_29 (HMa _), gt_30 (HMa _), am88, isRf_ref, true_and, and_true, aPs_s, aPs_n, b01_0, b01_1, nI_clamp, ix_nI, inb_nI, lt_nI, eq_nI, nn_nI, eq0_nI, pk_mul, nI_add, lt_T, lt_F, if_true, if_false, true_and, and_true, neg1_nI, neg1_lt, neg1_neg, lt_neg1, eqN_F, eq_self,  r3, e4, hk, e34, c27', w1, tX, t30, r30, r36, a36, c29', c30', w2, nI_bit]
    exact ih _)
  have e0 : ldX h P o 0 = h := by
    unfold ldX
    rw [pre_0, pre_0, pA_self, pA_self]
  have l0 := loop 0 (Nat.zero_le _) (.retAddr 0)
  rw [e0] at l0
  simp (disch := first | omega | assumption | exact gtP H hp | exact gt_29 H | exact gt_30 H | (simp only [gT_pA, gT_pI, gT_pR]; first | assumption | exact gtP H hp | exact gt_29 H | exact gt_30 H) | fail) only [s88_0, s88_1, s88_2, s88_3, s88_5, s88_6, s88_9, s88_12, s88_15, s88_16, s88_19, s88_20, s88_21, s88_22, s88_23, s88_26, s88_27, s88_28, s88_31, s88_32, s88_33, s88_36, s88_37, s88_38, s88_41, s88_42, s88_43, s88_46, s88_47, s88_48, s88_49, s88_52, s88_53, s88_56, s88_59, s88_60, s88_61, s88_62, s88_63, s88_64, s88_65, s88_66, s88_69, s88_72, ai_34 H, aj_35 H, aj_36 H, gr_29_0 H, gr_29_4 H, gr_29_5 H, gr_29_6 H, gtP H hp, gt_29 H, gt_30 H, am88, isRf_ref, true_and, and_true, aPs_s, aPs_n, b01_0, b01_1, nI_clamp, ix_nI, inb_nI, lt_nI, eq_nI, nn_nI, eq0_nI, pk_mul, nI_add, lt_T, lt_F, if_true, if_false, true_and, and_true, neg1_nI, neg1_lt, neg1_neg, lt_neg1, eqN_F, eq_self, ]
  exact l0
/-- what a heap shows of THE ORDER, lives, OVER, LOAD -/
def TL (h : abH) (P : Nat → Nat → Int32) (o : Nat → Nat) : Prop := (∀ k, k < nS P → gI h 34 k = nI (o k) ∧ gI h 35 k = oI (mOv P o k) ∧ gI h 36 k = nI (zLd P o k)) ∧ ∀ b, b < 12 → gI h 37 b = nI (fr P o b) ∧ gI h 38 b = oI (ti P o b)
def TM (h : abH) (p : Nat) (P : Nat → Nat → Int32) (ot : Option (Nat → Nat)) : Prop := TH h p P ∧ LH h p P ∧ gI h 29 3 = zB ot.isSome ∧ ∀ o, ot = some o → ordV P o ∧ TL h P o
def rnS : Nat → Nat → Prop := fun o k => (o = 29 ∧ k = 3) ∨ (31 ≤ o ∧ o ≤ 38)
def rnT : Nat → Nat → Prop := fun o k => (o = 29 ∧ k = 1) ∨ (o = 30 ∧ k = 0)
set_option maxHeartbeats 8000000 in
theorem t82 (H : KC h) (B : AB h) (hp : p = 5 ∨ p = 17) {P : Nat → Nat → Int32} (W : okW P) (C : CP h p P) (hw : ∀ l, l < 4 → gI h 52 l = P 67 l) {tl : Option (Nat → Nat)} (Tv : tlV P tl) (h2 : gI h 29 2 = zB tl.isSome) (hf : ∀ f, tl = some f → gI h 29 3 = nI 1 ∧ ∀ k, k < nS P → gI h 34 k = nI (f k)) (hQ : ∀ h', Fr rnS rnT h h' → TM h' p P (oRD P tl) → Q none h') : aM (d + 4) 82 [.ref 29, .ref p, .ref 52] h Q := by
  have V := W.1
  have s10 := V.s.1
  have H1 : KC (pR h 29 1 (.ref p)) := KC_29 H
  have B1 : AB (pR h 29 1 (.ref p)) := B
  have C1 : CP (pR h 29 1 (.ref p)) p P := C
  have hw1 : ∀ l, l < 4 → gI (pR h 29 1 (.ref p)) 52 l = P 67 l := hw
  have c26' : ∀ Q', aM (d + 3) 26 [.ref 30, .ref p, .ref 52] (pR h 29 1 (.ref p)) Q' = Q' none (meP (pR h 29 1 (.ref p)) p P 12 (nS P)) := fun Q' => c26 H1 B1 hp V C1 hw1
  have r1 : gR (pR h 29 1 (.ref p)) 29 1 = .ref p := by rw [gR_pR, if_pos ⟨rfl, rfl⟩]
  have F0 : Fr rnS rnT h (meP (pR h 29 1 (.ref p)) p P 12 (nS P)) := Fr_trans (Fr_pR (Or.inl ⟨rfl, rfl⟩)) (Fr_mono Fr_me (fun o k q => by unfold meS at q; unfold rnS; omega) (fun o k q => by unfold meT at q; unfold rnT; omega))
  have LD0 : LD (meP (pR h 29 1 (.ref p)) p P 12 (nS P)) P := by
    refine ⟨fun b hb => pre_in (g := fun b => nI (zS P b)) (f := gI h 31) hb, fun s hs => ⟨pre_in (g := fun s => nI (zC P s)) (f := gI h 32) hs, pre_in (g := fun s => zB (kOver (P 73 s))) (f := gI h 33) hs⟩⟩
  have F00 : ∀ o k, ¬ meS o k → gI (meP (pR h 29 1 (.ref p)) p P 12 (nS P)) o k = gI h o k := fun o k q => (Fr_me (h := pR h 29 1 (.ref p)) (p := p) (P := P) (m := 12) (n := nS P)).2.2 o k q
  generalize hX : meP (pR h 29 1 (.ref p)) p P 12 (nS P) = X at *
  have HX : KC X := by rw [← hX]; exact KC_30 H1
  have CX : CP X p P := CPg_of (fun q j q1 q2 => F0.2.2 q j (by unfold rnS; omega)) C
  have r29 : gR X 29 1 = .ref p := by
    rw [← hX]
    show gR (pR (pR h 29 1 (.ref p)) 30 0 (.ref p)) 29 1 = .ref p
    rw [gR_pR, if_neg (by omega), r1]
  have r30 : gR X 30 0 = .ref p := by
    rw [← hX]
    show gR (pR (pR h 29 1 (.ref p)) 30 0 (.ref p)) 30 0 = .ref p
    rw [gR_pR, if_pos ⟨rfl, rfl⟩]
  have LX : LH X p P := ⟨CX, LD0, r30⟩
  have TX : TH X p P := ⟨CX, r29⟩
  have e2 : gI X 29 2 = zB tl.isSome := by rw [F0.2.2 29 2 (by unfold rnS; omega)]; exact h2
  -- with an ORDER
  have fin : ∀ (Y : abH) (o : Nat → Nat), Fr rnS noT X Y → oRD P tl = some o → gI Y 29 3 = nI 1 → (∀ k, k < nS P → gI Y 34 k = nI (o k)) → LD Y P → aW (d + 4) 82 32 [.ref 29, .ref p, .ref 52] [] Y Q := by
    intro Y o FY ho e3 e34 LDY
    have O := oRD_V Tv ho
    have HY : KC Y := Fr_KC FY (fun e _ q => q) HX
    have CY : CP Y p P := CPg_of (fun q j q1 q2 => FY.2.2 q j (by unfold rnS; omega)) CX
    have rY : gR Y 29 1 = .ref p := by rw [FY.2.1 29 1 (fun q => q)]; exact r29
    have r3Y : gR Y 30 0 = .ref p := by rw [FY.2.1 30 0 (fun q => q)]; exact r30
    have c87' : ∀ Q', aM (d + 3) 87 [.ref 29] Y Q' = Q' none (lvX Y (fun b => nI (fr P o b)) (fun b => oI (ti P o b))) := fun Q' => c87 HY hp W ⟨CY, rY⟩ (fun k hk => ⟨e34 k hk, (O k hk).1⟩)
    have HZ : KC (lvX Y (fun b => nI (fr P o b)) (fun b => oI (ti P o b))) := HY
    have CZ : CP (lvX Y (fun b => nI (fr P o b)) (fun b => oI (ti P o b))) p P := CPg_of (fun q j q1 q2 => Fr_lv.2.2 q j (by unfold lvS; omega)) CY
    have c88' : ∀ Q', aM (d + 3) 88 [.ref 29] (lvX Y (fun b => nI (fr P o b)) (fun b => oI (ti P o b))) Q' = Q' none (ldX (lvX Y (fun b => nI (fr P o b)) (fun b => oI (ti P o b))) P o (nS P)) := fun Q' => c88 HZ hp W ⟨CZ, rY⟩ ⟨CZ, LDY, r3Y⟩ O e34
    have t29 := gt_29 HZ
    rw [s82_32]
    simp (disch := first | omega | assumption | exact gt_29 HY | exact gt_30 HY | (simp only [gT_pA, gT_pI, gT_pR]; first | assumption | exact gt_29 HY | exact gt_30 HY) | fail) only [s82_0, s82_1, s82_2, s82_5, s82_6, s82_9, s82_10, s82_13, s82_14, s82_17, s82_18, s82_21, s82_24, s82_25, s82_26, s82_29, s82_33, s82_36, s82_39, s82_40, s82_43, s82_44, s82_47, gr_29_0 HY, gt_29 HY, gt_30 HY, am82, isRf_ref, true_and, and_true, aPs_s, aPs_n, b01_0, b01_1, nI_clamp, ix_nI, inb_nI, lt_nI, eq_nI, nn_nI, eq0_nI, pk_mul, nI_add, lt_T, lt_F, if_true, if_false, true_and, and_true, neg1_nI, neg1_lt, neg1_neg, lt_neg1, eqN_F, eq_self,  e3, nI1_0, c87', t29, c88']
    refine hQ _ (Fr_trans F0 (Fr_trans (Fr_mono FY (fun _ _ q => q) (fun _ _ q => absurd q id)) (Fr_trans (Fr_mono Fr_lv (fun o k q => by unfold lvS at q; unfold rnS; omega) (fun _ _ q => absurd q id)) (Fr_mono Fr_ld (fun o k q => by unfold ldS at q; unfold rnS; omega) (fun _ _ q => absurd q id))))) ?_
    have CE : CP (ldX (lvX Y (fun b => nI (fr P o b)) (fun b => oI (ti P o b))) P o (nS P)) p P := CPg_of (fun q j q1 q2 => Fr_ld.2.2 q j (by unfold ldS; omega)) CZ
    refine ⟨⟨CE, rY⟩, ⟨CE, LDY, r3Y⟩, ?_, ?_⟩
    · rw [ho]
      exact e3
    · intro o' ho'
      rw [ho] at ho'
      cases ho'
      refine ⟨O, fun k hk => ⟨e34 k hk, ?_, ?_⟩, fun b hb => ⟨?_, ?_⟩⟩
      · exact pre_in (g := fun k => oI (mOv P o k)) (f := gI Y 35) hk
      · exact pre_in (g := fun k => nI (zLd P o k)) (f := gI Y 36) hk
      · exact pre_in (g := fun b => nI (fr P o b)) (f := gI Y 37) hb
      · exact pre_in (g := fun b => oI (ti P o b)) (f := gI Y 38) hb
  cases tl with
  | some f =>
    obtain ⟨f1, f2⟩ := hf f rfl
    have e2' : gI X 29 2 = nI 1 := e2
    have hs := oRD_is (P := P) (f := f)
    cases ho : oRD P (some f) with
    | none => rw [ho] at hs; cases hs
    | some o =>
      simp (disch := first | omega | assumption | exact gt_29 H | exact gt_30 H | (simp only [gT_pA, gT_pI, gT_pR]; first | assumption | exact gt_29 H | exact gt_30 H) | fail) only [s82_0, s82_1, s82_2, s82_6, s82_9, s82_10, s82_13, s82_14, s82_18, s82_21, s82_24, s82_25, s82_26, s82_29, s82_33, s82_36, s82_39, s82_40, s82_43, s82_44, s82_47, gr_29_0 H, gt_29 H, gt_30 H, am82, isRf_ref, true_and, and_true, aPs_s, aPs_n, b01_0, b01_1, nI_clamp, ix_nI, inb_nI, lt_nI, eq_nI, nn_nI, eq0_nI, pk_mul, nI_add, lt_T, lt_F, if_true, if_false, true_and, and_true, neg1_nI, neg1_lt, neg1_neg, lt_neg1, eqN_F, eq_self, ]
      rw [s82_5]
      simp (disch := first | omega | assumption | exact gt_29 H1 | exact gt_30 H1 | (simp only [gT_pA, gT_pI, gT_pR]; first | assumption | exact gt_29 H1 | exact gt_30 H1) | fail) only [s82_0, s82_1, s82_2, s82_5, s82_6, s82_9, s82_10, s82_13, s82_14, s82_18, s82_21, s82_24, s82_25, s82_26, s82_29, s82_33, s82_36, s82_39, s82_40, s82_43, s82_44, s82_47, gr_29_0 H1, gt_29 H1, gt_30 H1, am82, isRf_ref, true_and, and_true, aPs_s, aPs_n, b01_0, b01_1, nI_clamp, ix_nI, inb_nI, lt_nI, eq_nI, nn_nI, eq0_nI, pk_mul, nI_add, lt_T, lt_F, if_true, if_false, true_and, and_true, neg1_nI, neg1_lt, neg1_neg, lt_neg1, eqN_F, eq_self,  r1, c26']
      rw [s82_17]
      simp (disch := first | omega | assumption | exact gt_29 HX | exact gt_30 HX | (simp only [gT_pA, gT_pI, gT_pR]; first | assumption | exact gt_29 HX | exact gt_30 HX) | fail) only [s82_0, s82_1, s82_2, s82_5, s82_6, s82_9, s82_10, s82_13, s82_14, s82_17, s82_18, s82_21, s82_24, s82_25, s82_26, s82_29, s82_33, s82_36, s82_39, s82_40, s82_43, s82_44, s82_47, gr_29_0 HX, gt_29 HX, gt_30 HX, am82, isRf_ref, true_and, and_true, aPs_s, aPs_n, b01_0, b01_1, nI_clamp, ix_nI, inb_nI, lt_nI, eq_nI, nn_nI, eq0_nI, pk_mul, nI_add, lt_T, lt_F, if_true, if_false, true_and, and_true, neg1_nI, neg1_lt, neg1_neg, lt_neg1, eqN_F, eq_self,  e2', nI1_0]
      refine fin X o Fr_refl ho ?_ (fun k hk => ?_) LD0
      · rw [F00 29 3 (by unfold meS; omega)]
        exact f1
      · rw [F00 34 k (by unfold meS; omega), f2 k hk, oRD_tl ho k hk]
  | none =>
    have e2' : gI X 29 2 = nI 0 := e2
    simp (disch := first | omega | assumption | exact gt_29 H | exact gt_30 H | (simp only [gT_pA, gT_pI, gT_pR]; first | assumption | exact gt_29 H | exact gt_30 H) | fail) only [s82_0, s82_1, s82_2, s82_6, s82_9, s82_10, s82_13, s82_14, s82_18, s82_21, s82_24, s82_25, s82_26, s82_29, s82_33, s82_36, s82_39, s82_40, s82_43, s82_44, s82_47, gr_29_0 H, gt_29 H, gt_30 H, am82, isRf_ref, true_and, and_true, aPs_s, aPs_n, b01_0, b01_1, nI_clamp, ix_nI, inb_nI, lt_nI, eq_nI, nn_nI, eq0_nI, pk_mul, nI_add, lt_T, lt_F, if_true, if_false, true_and, and_true, neg1_nI, neg1_lt, neg1_neg, lt_neg1, eqN_F, eq_self, ]
    rw [s82_5]
    simp (disch := first | omega | assumption | exact gt_29 H1 | exact gt_30 H1 | (simp only [gT_pA, gT_pI, gT_pR]; first | assumption | exact gt_29 H1 | exact gt_30 H1) | fail) only [s82_0, s82_1, s82_2, s82_5, s82_6, s82_9, s82_10, s82_13, s82_14, s82_18, s82_21, s82_24, s82_25, s82_26, s82_29, s82_33, s82_36, s82_39, s82_40, s82_43, s82_44, s82_47, gr_29_0 H1, gt_29 H1, gt_30 H1, am82, isRf_ref, true_and, and_true, aPs_s, aPs_n, b01_0, b01_1, nI_clamp, ix_nI, inb_nI, lt_nI, eq_nI, nn_nI, eq0_nI, pk_mul, nI_add, lt_T, lt_F, if_true, if_false, true_and, and_true, neg1_nI, neg1_lt, neg1_neg, lt_neg1, eqN_F, eq_self,  r1, c26']
    rw [s82_17]
    simp (disch := first | omega | assumption | exact gt_29 HX | exact gt_30 HX | (simp only [gT_pA, gT_pI, gT_pR]; first | assumption | exact gt_29 HX | exact gt_30 HX) | fail) only [s82_0, s82_1, s82_2, s82_5, s82_6, s82_9, s82_10, s82_13, s82_14, s82_17, s82_18, s82_21, s82_24, s82_25, s82_26, s82_29, s82_33, s82_36, s82_39, s82_40, s82_43, s82_44, s82_47, gr_29_0 HX, gt_29 HX, gt_30 HX, am82, isRf_ref, true_and, and_true, aPs_s, aPs_n, b01_0, b01_1, nI_clamp, ix_nI, inb_nI, lt_nI, eq_nI, nn_nI, eq0_nI, pk_mul, nI_add, lt_T, lt_F, if_true, if_false, true_and, and_true, neg1_nI, neg1_lt, neg1_neg, lt_neg1, eqN_F, eq_self,  e2', nI0_0]
    refine t85 HX hp V TX (fun A hm => ?_) (fun o D hm => ?_)
    · have HA : KC (pA X 34 A) := HX
      have HB : KC (pI (pA X 34 A) 29 3 (nI 0)) := HX
      have e3 : gI (pI (pA X 34 A) 29 3 (nI 0)) 29 3 = nI 0 := by rw [pI_def, gI_eq, upd_eq]
      have ho : oRD P none = none := by unfold oRD; rw [hm]
      have FA : Fr rnS noT X (pI (pA X 34 A) 29 3 (nI 0)) := Fr_trans (Fr_pA (fun k => Or.inr ⟨by decide, by decide⟩)) (Fr_pI (Or.inl ⟨rfl, rfl⟩))
      have q := hQ (pI (pA X 34 A) 29 3 (nI 0)) (Fr_trans F0 (Fr_mono FA (fun _ _ q => q) (fun _ _ q => absurd q id))) (by
        have CE : CP (pI (pA X 34 A) 29 3 (nI 0)) p P := CPg_of (fun q j q1 q2 => FA.2.2 q j (by unfold rnS; omega)) CX
        refine ⟨⟨CE, r29⟩, ⟨CE, ⟨fun b hb => ?_, fun s hs => ?_⟩, r30⟩, ?_, fun o ho2 => ?_⟩
        · exact LD0.1 b hb
        · exact LD0.2 s hs
        · rw [ho]; exact e3
        · rw [ho] at ho2; cases ho2)
      simp (disch := first | omega | assumption | exact gt_29 HA | exact gt_30 HA | (simp only [gT_pA, gT_pI, gT_pR]; first | assumption | exact gt_29 HA | exact gt_30 HA) | fail) only [s82_0, s82_1, s82_2, s82_5, s82_6, s82_9, s82_10, s82_13, s82_14, s82_17, s82_18, s82_21, s82_24, s82_25, s82_26, s82_29, s82_33, s82_36, s82_39, s82_40, s82_43, s82_44, s82_47, gr_29_0 HA, gt_29 HA, gt_30 HA, am82, isRf_ref, true_and, and_true, aPs_s, aPs_n, b01_0, b01_1, nI_clamp, ix_nI, inb_nI, lt_nI, eq_nI, nn_nI, eq0_nI, pk_mul, nI_add, lt_T, lt_F, if_true, if_false, true_and, and_true, neg1_nI, neg1_lt, neg1_neg, lt_neg1, eqN_F, eq_self,  b01_0]
      rw [s82_32]
      simp (disch := first | omega | assumption | exact gt_29 HB | exact gt_30 HB | (simp only [gT_pA, gT_pI, gT_pR]; first | assumption | exact gt_29 HB | exact gt_30 HB) | fail) only [s82_0, s82_1, s82_2, s82_5, s82_6, s82_9, s82_10, s82_13, s82_14, s82_17, s82_18, s82_21, s82_24, s82_25, s82_26, s82_29, s82_33, s82_36, s82_39, s82_40, s82_43, s82_44, s82_47, gr_29_0 HB, gt_29 HB, gt_30 HB, am82, isRf_ref, true_and, and_true, aPs_s, aPs_n, b01_0, b01_1, nI_clamp, ix_nI, inb_nI, lt_nI, eq_nI, nn_nI, eq0_nI, pk_mul, nI_add, lt_T, lt_F, if_true, if_false, true_and, and_true, neg1_nI, neg1_lt, neg1_neg, lt_neg1, eqN_F, eq_self,  e3, nI0_0]
      exact q
    · have ho : oRD P none = some o := by unfold oRD; rw [hm]
      have HA : KC (rwX X o (nS P)) := HX
      have FA : Fr rnS noT X (pI (rwX X o (nS P)) 29 3 (nI 1)) := Fr_trans (Fr_pA (fun k => Or.inr ⟨by decide, by decide⟩)) (Fr_pI (Or.inl ⟨rfl, rfl⟩))
      have q := fin (pI (rwX X o (nS P)) 29 3 (nI 1)) o FA ho (by rw [pI_def, gI_eq, upd_eq]) (fun k hk => pre_in (g := fun j => nI (o j)) (f := gI X 34) hk) LD0
      simp (disch := first | omega | assumption | exact gt_29 HA | exact gt_30 HA | (simp only [gT_pA, gT_pI, gT_pR]; first | assumption | exact gt_29 HA | exact gt_30 HA) | fail) only [s82_0, s82_1, s82_2, s82_5, s82_6, s82_9, s82_10, s82_13, s82_14, s82_17, s82_18, s82_21, s82_24, s82_25, s82_26, s82_29, s82_33, s82_36, s82_39, s82_40, s82_43, s82_44, s82_47, gr_29_0 HA, gt_29 HA, gt_30 HA, am82, isRf_ref, true_and, and_true, aPs_s, aPs_n, b01_0, b01_1, nI_clamp, ix_nI, inb_nI, lt_nI, eq_nI, nn_nI, eq0_nI, pk_mul, nI_add, lt_T, lt_F, if_true, if_false, true_and, and_true, neg1_nI, neg1_lt, neg1_neg, lt_neg1, eqN_F, eq_self,  b01_1]
      exact q
end C7
