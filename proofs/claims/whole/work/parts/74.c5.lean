/-! FRAMES of heaps: what may have changed -/
def Fr (S T : Nat → Nat → Prop) (h h' : abH) : Prop := h'.1 = h.1 ∧ (∀ o k, ¬ T o k → gR h' o k = gR h o k) ∧ ∀ o k, ¬ S o k → gI h' o k = gI h o k
def noT : Nat → Nat → Prop := fun _ _ => False
theorem Fr_refl {S T : Nat → Nat → Prop} {h : abH} : Fr S T h h := ⟨rfl, fun _ _ _ => rfl, fun _ _ _ => rfl⟩
theorem Fr_trans {S T : Nat → Nat → Prop} {h h' h'' : abH} (a : Fr S T h h') (b : Fr S T h' h'') : Fr S T h h'' := ⟨b.1.trans a.1, fun o k q => (b.2.1 o k q).trans (a.2.1 o k q), fun o k q => (b.2.2 o k q).trans (a.2.2 o k q)⟩
theorem Fr_mono {S S' T T' : Nat → Nat → Prop} {h h' : abH} (a : Fr S T h h') (hS : ∀ o k, S o k → S' o k) (hT : ∀ o k, T o k → T' o k) : Fr S' T' h h' := ⟨a.1, fun o k q => a.2.1 o k (fun r => q (hT o k r)), fun o k q => a.2.2 o k (fun r => q (hS o k r))⟩
theorem Fr_pA {S T : Nat → Nat → Prop} {h : abH} {o : Nat} {f : Nat → Int32} (hS : ∀ k, S o k) : Fr S T h (pA h o f) := by
  refine ⟨rfl, fun _ _ _ => rfl, fun o' k q => ?_⟩
  by_cases e : o' = o
  · subst e; exact absurd (hS k) q
  · rw [gI_ne e]
theorem Fr_pI {S T : Nat → Nat → Prop} {h : abH} {o k : Nat} {v : Int32} (hS : S o k) : Fr S T h (pI h o k v) := by
  refine ⟨rfl, fun _ _ _ => rfl, fun o' k' q => ?_⟩
  rw [gI_pI, if_neg]
  rintro ⟨rfl, rfl⟩
  exact q hS
theorem Fr_pR {S T : Nat → Nat → Prop} {h : abH} {o k : Nat} {v : Value} (hT : T o k) : Fr S T h (pR h o k v) := by
  refine ⟨rfl, fun o' k' q => ?_, fun o' k' _ => rfl⟩
  rw [gR_pR, if_neg]
  rintro ⟨rfl, rfl⟩
  exact q hT
theorem Fr_gT {S T : Nat → Nat → Prop} {h h' : abH} (F : Fr S T h h') {o : Nat} : gT h' o = gT h o := by unfold gT; rw [F.1]
theorem Fr_KC {S T : Nat → Nat → Prop} {h h' : abH} (F : Fr S T h h') (hT : ∀ e ∈ KCR, ¬ T e.1 e.2.1) (H : KC h) : KC h' := ⟨fun e he => by rw [Fr_gT F]; exact H.1 e he, fun e he => by rw [F.2.1 _ _ (hT e he)]; exact H.2 e he⟩
theorem Fr_KM {S T : Nat → Nat → Prop} {h h' : abH} (F : Fr S T h h') (hT : ∀ e ∈ KMR, ¬ T e.1 e.2.1) (H : KM h) : KM h' := ⟨fun e he => by rw [Fr_gT F]; exact H.1 e he, fun e he => by rw [F.2.1 _ _ (hT e he)]; exact H.2 e he⟩
theorem CPg_of {h h' : abH} {p : Nat} {A : Nat → Nat → Int32} {N W : Nat} (hh : ∀ o k, p ≤ o → o ≤ p + 11 → gI h' o k = gI h o k) (C : CPg h p A N W) : CPg h' p A N W := by
  obtain ⟨c1, c2, c3, c4, c5⟩ := C
  refine ⟨by rw [hh _ _ (by omega) (by omega)]; exact c1, fun b hb => ?_, fun b hb k hk => ?_, fun s hs => ?_, fun s hs => ?_⟩
  · rw [hh _ _ (by omega) (by omega), hh _ _ (by omega) (by omega), hh _ _ (by omega) (by omega), hh _ _ (by omega) (by omega)]
    exact c2 b hb
  · rw [hh _ _ (by omega) (by omega), hh _ _ (by omega) (by omega)]
    exact c3 b hb k hk
  · rw [hh _ _ (by omega) (by omega), hh _ _ (by omega) (by omega)]
    refine ⟨(c4 s hs).1, (c4 s hs).2.1, fun k hk => ?_⟩
    rw [hh _ _ (by omega) (by omega)]
    exact (c4 s hs).2.2 k hk
  · rw [hh _ _ (by omega) (by omega), hh _ _ (by omega) (by omega)]
    exact c5 s hs
/-! THE CLASS: measure -/
def meP (h : abH) (p : Nat) (P : Nat → Nat → Int32) (m n : Nat) : abH := pA (pA (pA (pR h 30 0 (.ref p)) 31 (pre (fun b => nI (zS P b)) m (gI h 31))) 32 (pre (fun s => nI (zC P s)) n (gI h 32))) 33 (pre (fun s => zB (kOver (P 73 s))) n (gI h 33))
theorem KC_30 {h : abH} {v : Value} (H : KC h) : KC (pR h 30 0 v) := KC_pR H (by decide)
theorem KC_29 {h : abH} {v : Value} (H : KC h) : KC (pR h 29 1 v) := KC_pR H (by decide)
theorem meP_w1 {h : abH} {p : Nat} {P : Nat → Nat → Int32} {m n : Nat} {x : Int32} (hx : x = nI (zS P m)) : pI (meP h p P m n) 31 m x = meP h p P (m + 1) n := by
  subst hx
  unfold meP
  simp only [pI_def, gI_ne (show (31 : Nat) ≠ 33 by decide), gI_ne (show (31 : Nat) ≠ 32 by decide), gI_eq, pA_sw (o := 32) (o2 := 31) (by decide), pA_sw (o := 33) (o2 := 31) (by decide), pA_sw (o := 33) (o2 := 32) (by decide), pA_pA]
  rw [pre_upd (g := fun b => nI (zS P b))]
theorem meP_w2 {h : abH} {p : Nat} {P : Nat → Nat → Int32} {m n : Nat} {x y : Int32} (hx : x = nI (zC P n)) (hy : y = zB (kOver (P 73 n))) : pI (pI (meP h p P m n) 32 n x) 33 n y = meP h p P m (n + 1) := by
  subst hx
  subst hy
  unfold meP
  simp only [pI_def, gI_ne (show (32 : Nat) ≠ 33 by decide), gI_ne (show (33 : Nat) ≠ 32 by decide), gI_eq, pA_sw (o := 32) (o2 := 31) (by decide), pA_sw (o := 33) (o2 := 31) (by decide), pA_sw (o := 33) (o2 := 32) (by decide), pA_pA]
  rw [pre_upd (g := fun s => nI (zC P s)), pre_upd (g := fun s => zB (kOver (P 73 s)))]
def meS : Nat → Nat → Prop := fun o _ => 31 ≤ o ∧ o ≤ 33
def meT : Nat → Nat → Prop := fun o k => o = 30 ∧ k = 0
theorem Fr_me {h : abH} {p : Nat} {P : Nat → Nat → Int32} {m n : Nat} : Fr meS meT h (meP h p P m n) := by
  unfold meP
  refine Fr_trans (Fr_trans (Fr_trans (Fr_pR ⟨rfl, rfl⟩) (Fr_pA (fun k => ?_))) (Fr_pA (fun k => ?_))) (Fr_pA (fun k => ?_)) <;> exact ⟨by decide, by decide⟩
section C5
variable {d p : Nat} {h : abH} {Q : Option Value → abH → Prop}
set_option maxHeartbeats 8000000 in
theorem c26_55 (H : KC h) (hp : p = 5 ∨ p = 17) {P : Nat → Nat → Int32} (V : okP P) (C : CP h p P) (r30 : gR h 30 0 = .ref p) (l31 : ∀ b, b < 12 → gI h 31 b = nI (zS P b)) {s : Nat} (hs : s < nS P) {l1 l2 : Value} {R : Prop} (hR : ∀ x, aW (d + 3) 26 99 [.ref 30, l1, l2, .int (nI s), .int (nI (zRs P s (nRc P s))), x] [] h Q = R) : aW (d + 3) 26 55 [.ref 30, l1, l2, .int (nI s), .int (nI 0), .int (nI (4 * s))] [] h Q = R := by
  have s10 := V.s.1
  have ec := C.c V hs
  have hc := (V.c hs).2
  have loop := for_0 (F := fun k => aW (d + 3) 26 55 [.ref 30, l1, l2, .int (nI s), .int (nI (zRs P s k)), .int (nI (4 * s + k))] [] h Q) (R := R) (nRc P s) (by
    have h1 : ¬ 4 * s + nRc P s < 4 * s + nRc P s := Nat.lt_irrefl _
    rw [s26_55]
    simp (disch := first | omega | assumption | exact gtP H hp | exact gt_30 H | (simp only [gT_pA, gT_pI, gT_pR]; first | assumption | exact gtP H hp | exact gt_30 H) | fail) only [s26_0, s26_1, s26_2, s26_5, s26_6, s26_8, s26_10, s26_13, s26_14, s26_17, s26_18, s26_19, s26_22, s26_23, s26_24, s26_27, s26_28, s26_31, s26_34, s26_35, s26_37, s26_38, s26_41, s26_44, s26_47, s26_48, s26_50, s26_51, s26_52, s26_53, s26_57, s26_58, s26_59, s26_60, s26_61, s26_64, s26_67, s26_68, s26_69, s26_70, s26_73, s26_75, s26_76, s26_79, s26_80, s26_83, s26_86, s26_88, s26_89, s26_90, s26_91, s26_93, s26_96, s26_100, s26_103, s26_104, s26_105, s26_108, s26_111, s26_112, s26_113, s26_115, s26_116, s26_119, s26_120, s26_123, s26_126, s26_127, s26_128, s26_129, s26_132, s26_133, s26_134, s26_137, s26_138, s26_139, s26_142, s26_145, s26_146, s26_147, s26_150, s26_151, s26_154, s26_157, aiP_10 H hp, aiP_11 H hp, aiP_7 H hp, aiP_9 H hp, ai_31 H, aj_31 H, aj_32 H, az_33 H, grP_10 H hp, grP_11 H hp, grP_7 H hp, grP_9 H hp, gr_30_1 H, gr_30_2 H, gr_30_3 H, gtP H hp, gt_30 H, am26, isRf_ref, true_and, and_true, aPs_s, aPs_n, b01_0, b01_1, nI_clamp, ix_nI, inb_nI, lt_nI, eq_nI, nn_nI, eq0_nI, pk_mul, nI_add, lt_T, lt_F, if_true, if_false, true_and, and_true, neg1_nI, neg1_lt, neg1_neg, lt_neg1, eqN_F, eq_self,  r30, ec, Nat.mul_comm s 4, h1]
    exact hR _) (fun k hk => by
    have h1 : 4 * s + k < 4 * s + nRc P s := by omega
    have er := C.r V hs hk
    have hr := (V.r hs hk).2
    have l1 := l31 _ hr
    rw [s26_55, zRs]
    simp (disch := first | omega | assumption | exact gtP H hp | exact gt_30 H | (simp only [gT_pA, gT_pI, gT_pR]; first | assumption | exact gtP H hp | exact gt_30 H) | fail) only [s26_0, s26_1, s26_2, s26_5, s26_6, s26_8, s26_10, s26_13, s26_14, s26_17, s26_18, s26_19, s26_22, s26_23, s26_24, s26_27, s26_28, s26_31, s26_34, s26_35, s26_37, s26_38, s26_41, s26_44, s26_47, s26_48, s26_50, s26_51, s26_52, s26_53, s26_57, s26_58, s26_59, s26_60, s26_61, s26_64, s26_67, s26_68, s26_69, s26_70, s26_73, s26_75, s26_76, s26_79, s26_80, s26_83, s26_86, s26_88, s26_89, s26_90, s26_91, s26_93, s26_96, s26_100, s26_103, s26_104, s26_105, s26_108, s26_111, s26_112, s26_113, s26_115, s26_116, s26_119, s26_120, s26_123, s26_126, s26_127, s26_128, s26_129, s26_132, s26_133, s26_134, s26_137, s26_138, s26_139, s26_142, s26_145, s26_146, s26_147, s26_150, s26_151, s26_154, s26_157, aiP_10 H hp, aiP_11 H hp, aiP_7 H hp, aiP_9 H hp, ai_31 H, aj_31 H, aj_32 H, az_33 H, grP_10 H hp, grP_11 H hp, grP_7 H hp, grP_9 H hp, gr_30_1 H, gr_30_2 H, gr_30_3 H, gtP H hp, gt_30 H, am26, isRf_ref, true_and, and_true, aPs_s, aPs_n, b01_0, b01_1, nI_clamp, ix_nI, inb_nI, lt_nI, eq_nI, nn_nI, eq0_nI, pk_mul, nI_add, lt_T, lt_F, if_true, if_false, true_and, and_true, neg1_nI, neg1_lt, neg1_neg, lt_neg1, eqN_F, eq_self,  r30, ec, Nat.mul_comm s 4, h1, er, hr, l1, Nat.add_assoc])
  exact loop
set_option maxHeartbeats 8000000 in
theorem c26 (H : KC h) (B : AB h) (hp : p = 5 ∨ p = 17) {P : Nat → Nat → Int32} (V : okP P) (C : CP h p P) (hw : ∀ l, l < 4 → gI h 52 l = P 67 l) : aM (d + 3) 26 [.ref 30, .ref p, .ref 52] h Q = Q none (meP h p P 12 (nS P)) := by
  have s10 := V.s.1
  have HMa : ∀ m n, KC (meP h p P m n) := fun _ _ => KC_30 H
  have r30 : ∀ m n, gR (meP h p P m n) 30 0 = .ref p := fun m n => by
    show gR (pR h 30 0 (.ref p)) 30 0 = .ref p
    rw [gR_pR, if_pos ⟨rfl, rfl⟩]
  have Cm : ∀ m n, CP (meP h p P m n) p P := fun m n => CPg_of (fun o k h1 h2 => Fr_me.2.2 o k (by unfold meS; omega)) C
  have loop2 := for_ds (σ := Value × Value) (F := fun s x => aW (d + 3) 26 36 [.ref 30, .ref p, .ref 52, .int (nI s), x.1, x.2] [] (meP h p P 12 s) Q) (R := fun _ => Q none (meP h p P 12 (nS P))) (nS P) (fun x => by
    have e4 := (Cm 12 (nS P)).s
    have r3 := r30 12 (nS P)
    rw [s26_36]
    simp (disch := first | omega | assumption | exact gtP (HMa _ _) hp | exact gt_30 (HMa _ _) | (simp only [gT_pA, gT_pI, gT_pR]; first | assumption | exact gtP (HMa _ _) hp | exact gt_30 (HMa _ _)) | fail) only [s26_0, s26_1, s26_2, s26_5, s26_6, s26_8, s26_10, s26_13, s26_14, s26_17, s26_18, s26_19, s26_22, s26_23, s26_24, s26_27, s26_28, s26_31, s26_34, s26_35, s26_37, s26_38, s26_41, s26_44, s26_47, s26_48, s26_50, s26_51, s26_52, s26_53, s26_57, s26_58, s26_59, s26_60, s26_61, s26_64, s26_67, s26_68, s26_69, s26_70, s26_73, s26_75, s26_76, s26_79, s26_80, s26_83, s26_86, s26_88, s26_89, s26_90, s26_91, s26_93, s26_96, s26_100, s26_103, s26_104, s26_105, s26_108, s26_111, s26_112, s26_113, s26_115, s26_116, s26_119, s26_120, s26_123, s26_126, s26_127, s26_128, s26_129, s26_132, s26_133, s26_134, s26_137, s26_138, s26_139, s26_142, s26_145, s26_146, s26_147, s26_150, s26_151, s26_154, s26_157, aiP_10 (HMa _ _) hp, aiP_11 (HMa _ _) hp, aiP_7 (HMa _ _) hp, aiP_9 (HMa _ _) hp, ai_31 (HMa _ _), aj_31 (HMa _ _), aj_32 (HMa _ _), az_33 (HMa _ _), grP_10 (HMa _ _) hp, grP_11 (HMa _ _) hp, grP_7 (HMa _ _) hp, grP_9 (HMa _ _) hp, gr_30_1 (HMa _ _), gr_30_2 (HMa _ _), gr_30_3 (HMa _ _), gtP (HMa _ _) hp, gt_30 (HMa _ _), am26, isRf_ref, true_and, and_true, aPs_s, aPs_n, b01_0, b01_1, nI_clamp, ix_nI, inb_nI, lt_nI, eq_nI, nn_nI, eq0_nI, pk_mul, nI_add, lt_T, lt_F, if_true, if_false, true_and, and_true, neg1_nI, neg1_lt, neg1_neg, lt_neg1, eqN_F, eq_self,  r3, e4, Nat.lt_irrefl]) (fun s hs ih x => by
    have e4 := (Cm 12 s).s
    have r3 := r30 12 s
    have l31 : ∀ b, b < 12 → gI (meP h p P 12 s) 31 b = nI (zS P b) := fun b hb => pre_in (g := fun b => nI (zS P b)) (f := gI h 31) hb
    have ek := (Cm 12 s).k V hs
    have kk := (V.k hs).2
    have ew := (Cm 12 s).w V hs
    have w12 := (V.w hs).2
    have lw := l31 _ w12
    have hz := (zC_ok V hs)
    have hrs := zRs_ok V hs (Nat.le_refl (nRc P s))
    have hsz := zS_ok V w12
    have c24' : ∀ Q', aM (d + 2) 24 [.int (nI (nK P s)), .int (nI (zRs P s (nRc P s))), .int (nI (zS P (nWt P s)))] (meP h p P 12 s) Q' = Q' (some (.int (nI (zC P s)))) (meP h p P 12 s) := by
      intro Q'
      rw [show nK P s = ix (P 73 s) from rfl, c24 kk, ← (V.k hs).1, ← hz.1]
      unfold mScr
      rw [hrs.1, hsz.1]
    have X1c : KC (pI (meP h p P 12 s) 32 s (nI (zC P s))) := KC_30 H
    have X1b : AB (pI (meP h p P 12 s) 32 s (nI (zC P s))) := B
    have c22' : ∀ Q', aM (d + 2) 22 [.int (nI (nK P s))] (pI (meP h p P 12 s) 32 s (nI (zC P s))) Q' = Q' (some (.int (zB (kOver (P 73 s))))) (pI (meP h p P 12 s) 32 s (nI (zC P s))) := by
      intro Q'
      rw [show nK P s = ix (P 73 s) from rfl, c22 X1c X1b kk, ← (V.k hs).1]
    have g1 : gR (pI (meP h p P 12 s) 32 s (nI (zC P s))) 30 0 = .ref p := r3
    have g2 : gI (pI (meP h p P 12 s) 32 s (nI (zC P s))) (p + 7) s = nI (nK P s) := by
      rw [pI_def, gI_ne (by omega)]
      exact ek
    have ew2 := meP_w2 (h := h) (p := p) (P := P) (m := 12) (n := s) (x := nI (zC P s)) (y := zB (kOver (P 73 s))) rfl rfl
    rw [s26_36]
    simp (disch := first | omega | assumption | exact gtP (HMa _ _) hp | exact gt_30 (HMa _ _) | (simp only [gT_pA, gT_pI, gT_pR]; first | assumption | exact gtP (HMa _ _) hp | exact gt_30 (HMa _ _)) | fail) only [s26_0, s26_1, s26_2, s26_5, s26_6, s26_8, s26_10, s26_13, s26_14, s26_17, s26_18, s26_19, s26_22, s26_23, s26_24, s26_27, s26_28, s26_31, s26_34, s26_35, s26_37, s26_38, s26_41, s26_44, s26_47, s26_48, s26_50, s26_51, s26_52, s26_53, s26_57, s26_58, s26_59, s26_60, s26_61, s26_64, s26_67, s26_68, s26_69, s26_70, s26_73, s26_75, s26_76, s26_79, s26_80, s26_83, s26_86, s26_88, s26_89, s26_90, s26_91, s26_93, s26_96, s26_100, s26_103, s26_104, s26_105, s26_108, s26_111, s26_112, s26_113, s26_115, s26_116, s26_119, s26_120, s26_123, s26_126, s26_127, s26_128, s26_129, s26_132, s26_133, s26_134, s26_137, s26_138, s26_139, s26_142, s26_145, s26_146, s26_147, s26_150, s26_151, s26_154, s26_157, aiP_10 (HMa _ _) hp, aiP_11 (HMa _ _) hp, aiP_7 (HMa _ _) hp, aiP_9 (HMa _ _) hp, ai_31 (HMa _ _), aj_31 (HMa _ _), aj_32 (HMa _ _), az_33 (HMa _ _), grP_10 (HMa _ _) hp, grP_11 (HMa _ _) hp, grP_7 (HMa _ _) hp, grP_9 (HMa _ _) hp, gr_30_1 (HMa _ _), gr_30_2 (HMa _ _), gr_30_3 (HMa _ _), gtP (HMa _ _) hp, gt_30 (HMa _ _), am26, isRf_ref, true_and, and_true, aPs_s, aPs_n, b01_0, b01_1, nI_clamp, ix_nI, inb_nI, lt_nI, eq_nI, nn_nI, eq0_nI, pk_mul, nI_add, lt_T, lt_F, if_true, if_false, true_and, and_true, neg1_nI, neg1_lt, neg1_neg, lt_neg1, eqN_F, eq_self,  r3, e4, hs, Nat.mul_comm s 4]
    refine c26_55 (HMa 12 s) hp V (Cm 12 s) r3 l31 hs (fun y => ?_)
    rw [s26_99]
    simp (disch := first | omega | assumption | exact gtP (HMa _ _) hp | exact gt_30 (HMa _ _) | (simp only [gT_pA, gT_pI, gT_pR]; first | assumption | exact gtP (HMa _ _) hp | exact gt_30 (HMa _ _)) | fail) only [s26_0, s26_1, s26_2, s26_5, s26_6, s26_8, s26_10, s26_13, s26_14, s26_17, s26_18, s26_19, s26_22, s26_23, s26_24, s26_27, s26_28, s26_31, s26_34, s26_35, s26_37, s26_38, s26_41, s26_44, s26_47, s26_48, s26_50, s26_51, s26_52, s26_53, s26_57, s26_58, s26_59, s26_60, s26_61, s26_64, s26_67, s26_68, s26_69, s26_70, s26_73, s26_75, s26_76, s26_79, s26_80, s26_83, s26_86, s26_88, s26_89, s26_90, s26_91, s26_93, s26_96, s26_100, s26_103, s26_104, s26_105, s26_108, s26_111, s26_112, s26_113, s26_115, s26_116, s26_119, s26_120, s26_123, s26_126, s26_127, s26_128, s26_129, s26_132, s26_134, s26_137, s26_138, s26_139, s26_142, s26_145, s26_146, s26_147, s26_150, s26_151, s26_154, s26_157, aiP_10 (HMa _ _) hp, aiP_11 (HMa _ _) hp, aiP_7 (HMa _ _) hp, aiP_9 (HMa _ _) hp, ai_31 (HMa _ _), aj_31 (HMa _ _), aj_32 (HMa _ _), az_33 (HMa _ _), grP_10 (HMa _ _) hp, grP_11 (HMa _ _) hp, grP_7 (HMa _ _) hp, grP_9 (HMa _ _) hp, gr_30_1 (HMa _ _), gr_30_2 (HMa _ _), gr_30_3 (HMa _ _), gtP (HMa _ _) hp, gt_30 (HMa _ _), am26, isRf_ref, true_and, and_true, aPs_s, aPs_n, b01_0, b01_1, nI_clamp, ix_nI, inb_nI, lt_nI, eq_nI, nn_nI, eq0_nI, pk_mul, nI_add, lt_T, lt_F, if_true, if_false, true_and, and_true, neg1_nI, neg1_lt, neg1_neg, lt_neg1, eqN_F, eq_self,  r3, ek, ew, w12, lw, c24']
    rw [s26_133]
    simp (disch := first | omega | assumption | exact gtP X1c hp | exact gt_30 X1c | (simp only [gT_pA, gT_pI, gT_pR]; first | assumption | exact gtP X1c hp | exact gt_30 X1c) | fail) only [s26_0, s26_1, s26_2, s26_5, s26_6, s26_8, s26_10, s26_13, s26_14, s26_17, s26_18, s26_19, s26_22, s26_23, s26_24, s26_27, s26_28, s26_31, s26_34, s26_35, s26_37, s26_38, s26_41, s26_44, s26_47, s26_48, s26_50, s26_51, s26_52, s26_53, s26_57, s26_58, s26_59, s26_60, s26_61, s26_64, s26_67, s26_68, s26_69, s26_70, s26_73, s26_75, s26_76, s26_79, s26_80, s26_83, s26_86, s26_88, s26_89, s26_90, s26_91, s26_93, s26_96, s26_100, s26_103, s26_104, s26_105, s26_108, s26_111, s26_112, s26_113, s26_115, s26_116, s26_119, s26_120, s26_123, s26_126, s26_127, s26_128, s26_129, s26_132, s26_133, s26_134, s26_137, s26_138, s26_139, s26_142, s26_145, s26_146, s26_147, s26_150, s26_151, s26_154, s26_157, aiP_10 X1c hp, aiP_11 X1c hp, aiP_7 X1c hp, aiP_9 X1c hp, ai_31 X1c, aj_31 X1c, aj_32 X1c, az_33 X1c, grP_10 X1c hp, grP_11 X1c hp, grP_7 X1c hp, grP_9 X1c hp, gr_30_1 X1c, gr_30_2 X1c, gr_30_3 X1c, gtP X1c hp, gt_30 X1c, am26, isRf_ref, true_and, and_true, aPs_s, aPs_n, b01_0, b01_1, nI_clamp, ix_nI, inb_nI, lt_nI, eq_nI, nn_nI, eq0_nI, pk_mul, nI_add, lt_T, lt_F, if_true, if_false, true_and, and_true, neg1_nI, neg1_lt, neg1_neg, lt_neg1, eqN_F, eq_self,  g1, g2, c22', zB_b, ew2]
    exact ih (.int (nI (zRs P s (nRc P s))), y))
  have loop1 := for_0 (F := fun b => aW (d + 3) 26 7 [.ref 30, .ref p, .ref 52, .int (nI b), .retAddr 0, .retAddr 0] [] (meP h p P b 0) Q) (R := Q none (meP h p P 12 (nS P))) 12 (by
    rw [s26_7]
    simp (disch := first | omega | assumption | exact gtP (HMa _ _) hp | exact gt_30 (HMa _ _) | (simp only [gT_pA, gT_pI, gT_pR]; first | assumption | exact gtP (HMa _ _) hp | exact gt_30 (HMa _ _)) | fail) only [s26_0, s26_1, s26_2, s26_5, s26_6, s26_8, s26_10, s26_13, s26_14, s26_17, s26_18, s26_19, s26_22, s26_23, s26_24, s26_27, s26_28, s26_31, s26_34, s26_35, s26_37, s26_38, s26_41, s26_44, s26_47, s26_48, s26_50, s26_51, s26_52, s26_53, s26_57, s26_58, s26_59, s26_60, s26_61, s26_64, s26_67, s26_68, s26_69, s26_70, s26_73, s26_75, s26_76, s26_79, s26_80, s26_83, s26_86, s26_88, s26_89, s26_90, s26_91, s26_93, s26_96, s26_100, s26_103, s26_104, s26_105, s26_108, s26_111, s26_112, s26_113, s26_115, s26_116, s26_119, s26_120, s26_123, s26_126, s26_127, s26_128, s26_129, s26_132, s26_133, s26_134, s26_137, s26_138, s26_139, s26_142, s26_145, s26_146, s26_147, s26_150, s26_151, s26_154, s26_157, aiP_10 (HMa _ _) hp, aiP_11 (HMa _ _) hp, aiP_7 (HMa _ _) hp, aiP_9 (HMa _ _) hp, ai_31 (HMa _ _), aj_31 (HMa _ _), aj_32 (HMa _ _), az_33 (HMa _ _), grP_10 (HMa _ _) hp, grP_11 (HMa _ _) hp, grP_7 (HMa _ _) hp, grP_9 (HMa _ _) hp, gr_30_1 (HMa _ _), gr_30_2 (HMa _ _), gr_30_3 (HMa _ _), gtP (HMa _ _) hp, gt_30 (HMa _ _), am26, isRf_ref, true_and, and_true, aPs_s, aPs_n, b01_0, b01_1, nI_clamp, ix_nI, inb_nI, lt_nI, eq_nI, nn_nI, eq0_nI, pk_mul, nI_add, lt_T, lt_F, if_true, if_false, true_and, and_true, neg1_nI, neg1_lt, neg1_neg, lt_neg1, eqN_F, eq_self,  Nat.lt_irrefl]
    exact loop2 0 (Nat.zero_le _) (.retAddr 0, .retAddr 0)) (fun b hb => by
    have r3 := r30 b 0
    have hw2 : ∀ l, l < 4 → gI (meP h p P b 0) 52 l = P 67 l := hw
    have c51' : ∀ Q', aM (d + 2) 51 [.ref p, .int (nI b), .ref 52] (meP h p P b 0) Q' = Q' (some (.int (nI (zS P b)))) (meP h p P b 0) := fun Q' => c51 (HMa b 0) hp (Cm b 0) V hw2 hb
    have ew := meP_w1 (h := h) (p := p) (P := P) (m := b) (n := 0) (x := nI (zS P b)) rfl
    rw [s26_7]
    simp (disch := first | omega | assumption | exact gtP (HMa _ _) hp | exact gt_30 (HMa _ _) | (simp only [gT_pA, gT_pI, gT_pR]; first | assumption | exact gtP (HMa _ _) hp | exact gt_30 (HMa _ _)) | fail) only [s26_0, s26_1, s26_2, s26_5, s26_6, s26_8, s26_10, s26_13, s26_14, s26_17, s26_18, s26_19, s26_22, s26_23, s26_24, s26_27, s26_28, s26_31, s26_34, s26_35, s26_37, s26_38, s26_41, s26_44, s26_47, s26_48, s26_50, s26_51, s26_52, s26_53, s26_57, s26_58, s26_59, s26_60, s26_61, s26_64, s26_67, s26_68, s26_69, s26_70, s26_73, s26_75, s26_76, s26_79, s26_80, s26_83, s26_86, s26_88, s26_89, s26_90, s26_91, s26_93, s26_96, s26_100, s26_103, s26_104, s26_105, s26_108, s26_111, s26_112, s26_113, s26_115, s26_116, s26_119, s26_120, s26_123, s26_126, s26_127, s26_128, s26_129, s26_132, s26_133, s26_134, s26_137, s26_138, s26_139, s26_142, s26_145, s26_146, s26_147, s26_150, s26_151, s26_154, s26_157, aiP_10 (HMa _ _) hp, aiP_11 (HMa _ _) hp, aiP_7 (HMa _ _) hp, aiP_9 (HMa _ _) hp, ai_31 (HMa _ _), aj_31 (HMa _ _), aj_32 (HMa _ _), az_33 (HMa _ _), grP_10 (HMa _ _) hp, grP_11 (HMa _ _) hp, grP_7 (HMa _ _) hp, grP_9 (HMa _ _) hp, gr_30_1 (HMa _ _), gr_30_2 (HMa _ _), gr_30_3 (HMa _ _), gtP (HMa _ _) hp, gt_30 (HMa _ _), am26, isRf_ref, true_and, and_true, aPs_s, aPs_n, b01_0, b01_1, nI_clamp, ix_nI, inb_nI, lt_nI, eq_nI, nn_nI, eq0_nI, pk_mul, nI_add, lt_T, lt_F, if_true, if_false, true_and, and_true, neg1_nI, neg1_lt, neg1_neg, lt_neg1, eqN_F, eq_self,  r3, hb, c51', ew])
  have e0 : pR h 30 0 (.ref p) = meP h p P 0 0 := by
    unfold meP
    simp only [pre_0]
    generalize hX : pR h 30 0 (.ref p) = X
    have x1 : gI h 31 = gI X 31 := by rw [← hX]; rfl
    have x2 : gI h 32 = gI X 32 := by rw [← hX]; rfl
    have x3 : gI h 33 = gI X 33 := by rw [← hX]; rfl
    rw [x1, pA_self, x2, pA_self, x3, pA_self]
  simp (disch := first | omega | assumption | exact gtP H hp | exact gt_30 H | (simp only [gT_pA, gT_pI, gT_pR]; first | assumption | exact gtP H hp | exact gt_30 H) | fail) only [s26_0, s26_1, s26_2, s26_5, s26_6, s26_8, s26_10, s26_13, s26_14, s26_17, s26_18, s26_19, s26_22, s26_23, s26_24, s26_27, s26_28, s26_31, s26_34, s26_35, s26_37, s26_38, s26_41, s26_44, s26_47, s26_48, s26_50, s26_51, s26_52, s26_53, s26_57, s26_58, s26_59, s26_60, s26_61, s26_64, s26_67, s26_68, s26_69, s26_70, s26_73, s26_75, s26_76, s26_79, s26_80, s26_83, s26_86, s26_88, s26_89, s26_90, s26_91, s26_93, s26_96, s26_100, s26_103, s26_104, s26_105, s26_108, s26_111, s26_112, s26_113, s26_115, s26_116, s26_119, s26_120, s26_123, s26_126, s26_127, s26_128, s26_129, s26_132, s26_133, s26_134, s26_137, s26_138, s26_139, s26_142, s26_145, s26_146, s26_147, s26_150, s26_151, s26_154, s26_157, aiP_10 H hp, aiP_11 H hp, aiP_7 H hp, aiP_9 H hp, ai_31 H, aj_31 H, aj_32 H, az_33 H, grP_10 H hp, grP_11 H hp, grP_7 H hp, grP_9 H hp, gr_30_1 H, gr_30_2 H, gr_30_3 H, gtP H hp, gt_30 H, am26, isRf_ref, true_and, and_true, aPs_s, aPs_n, b01_0, b01_1, nI_clamp, ix_nI, inb_nI, lt_nI, eq_nI, nn_nI, eq0_nI, pk_mul, nI_add, lt_T, lt_F, if_true, if_false, true_and, and_true, neg1_nI, neg1_lt, neg1_neg, lt_neg1, eqN_F, eq_self,  e0]
  exact loop1
end C5
