/-! BOTH SIDES, call by call: a TEXT is taken -/
theorem AB_of {h h' : abH} (e : gI h' 1 = gI h 1) (B : AB h) : AB h' := by
  unfold AB
  rw [e]
  exact B
theorem RG_ext {G G2 A : Nat → Nat → Int32} {N W : Nat} (e : ∀ k, k ≤ 11 → G2 k = G k) (R : RG G A N W) : RG G2 A N W := by
  unfold RG
  rw [e 0 (by omega), e 1 (by omega), e 2 (by omega), e 3 (by omega), e 4 (by omega), e 5 (by omega), e 6 (by omega), e 7 (by omega), e 8 (by omega), e 9 (by omega), e 10 (by omega), e 11 (by omega)]
  exact R
theorem Fr_rx {h : abH} {q a T : Nat} {c : Nat → Nat} {G : Nat → Nat → Int32} {R : Nat → Nat → Prop} : Fr (fun o _ => o = 3 ∨ (q ≤ o ∧ o ≤ q + 11)) R h (rx h q c T a G) := by
  refine ⟨rfl, fun _ _ _ => rfl, fun o k hq => ?_⟩
  have : gI (rx h q c T a G) o = gI h o := rx_o (by omega) (by omega)
  rw [this]
theorem Fr_nw {h : abH} {a : Nat} {A : Nat → Nat → Int32} {R : Nat → Nat → Prop} : Fr (fun o k => (78 ≤ o ∧ o ≤ 87) ∨ (o = 65 ∧ (k = 45 ∨ k = 15))) R h (nwH h a A) := by
  refine ⟨rfl, fun _ _ _ => rfl, fun o k hq => ?_⟩
  show nwF h a A o k = gI h o k
  unfold nwF
  rw [if_neg (by omega)]
  by_cases e : o = 65
  · subst e
    rw [if_pos rfl, upd_ne (by omega), upd_ne (by omega)]
  · rw [if_neg e]
theorem nwV_cg {h h' : abH} (e : ∀ o, 65 ≤ o → gI h' o = gI h o) : nwV h' = nwV h := by
  funext o
  unfold nwV
  by_cases g : 68 ≤ o ∧ o ≤ 77
  · rw [if_pos g, if_pos g, e _ (by omega)]
  · rw [if_neg g, if_neg g, e 65 (by omega)]
section RA
variable {d : Nat} {h0 h : abH} {Q : Option Value → abH → Prop} {r : Bool × Nat × (Nat → Nat → Int32)}
theorem pgT_o {Y : abH} {A : Nat → Nat → Int32} {o : Nat} (h1 : o ≠ 65) (h2 : o ≠ 91) : gI (pgT Y A) o = gI Y o := by
  unfold pgT agH
  rw [gI_ne h2, gI_ne h1, pI_def, gI_ne h1, pI_def, gI_ne h1, pI_def, gI_ne h1]
theorem pgZ_o {v : Int32} {o : Nat} (h1 : o ≠ 65) (h2 : ¬ (78 ≤ o ∧ o ≤ 87)) : gI (pI (pgF h r) 65 4 v) o = gI h o := by
  unfold pgF
  rw [pI_def, gI_ne h1, pI_def, gI_ne h1, nwH_I]
  unfold nwF
  rw [if_neg h2, if_neg h1]
theorem pg_68 : gI (pgH h r) 68 = pre (r.2.2 68) 12 (gI h 68) := by
  unfold pgH
  rw [pgT_o (by decide) (by decide)]
  unfold tkH
  rw [gI_ne (by decide), gI_ne (by decide), gI_ne (by decide), gI_ne (by decide), gI_ne (by decide), gI_ne (by decide), gI_ne (by decide), gI_ne (by decide), gI_ne (by decide), gI_ne (by decide), gI_eq, pgZ_o (by decide) (by decide)]
theorem pg_69 : gI (pgH h r) 69 = pre (r.2.2 69) 12 (gI h 69) := by
  unfold pgH
  rw [pgT_o (by decide) (by decide)]
  unfold tkH
  rw [gI_ne (by decide), gI_ne (by decide), gI_ne (by decide), gI_ne (by decide), gI_ne (by decide), gI_ne (by decide), gI_ne (by decide), gI_ne (by decide), gI_ne (by decide), gI_eq, pgZ_o (by decide) (by decide)]
theorem pg_70 : gI (pgH h r) 70 = pre (r.2.2 70) 48 (gI h 70) := by
  unfold pgH
  rw [pgT_o (by decide) (by decide)]
  unfold tkH
  rw [gI_ne (by decide), gI_ne (by decide), gI_ne (by decide), gI_ne (by decide), gI_ne (by decide), gI_ne (by decide), gI_ne (by decide), gI_ne (by decide), gI_eq, pgZ_o (by decide) (by decide)]
theorem pg_71 : gI (pgH h r) 71 = pre (r.2.2 71) 48 (gI h 71) := by
  unfold pgH
  rw [pgT_o (by decide) (by decide)]
  unfold tkH
  rw [gI_ne (by decide), gI_ne (by decide), gI_ne (by decide), gI_ne (by decide), gI_ne (by decide), gI_ne (by decide), gI_ne (by decide), gI_eq, pgZ_o (by decide) (by decide)]
theorem pg_72 : gI (pgH h r) 72 = pre (r.2.2 72) 12 (gI h 72) := by
  unfold pgH
  rw [pgT_o (by decide) (by decide)]
  unfold tkH
  rw [gI_ne (by decide), gI_ne (by decide), gI_ne (by decide), gI_ne (by decide), gI_ne (by decide), gI_ne (by decide), gI_eq, pgZ_o (by decide) (by decide)]
theorem pg_73 : gI (pgH h r) 73 = pre (r.2.2 73) (nS r.2.2) (gI h 73) := by
  unfold pgH
  rw [pgT_o (by decide) (by decide)]
  unfold tkH
  rw [gI_ne (by decide), gI_ne (by decide), gI_ne (by decide), gI_ne (by decide), gI_ne (by decide), gI_eq, pgZ_o (by decide) (by decide)]
theorem pg_74 : gI (pgH h r) 74 = pre (r.2.2 74) (nS r.2.2) (gI h 74) := by
  unfold pgH
  rw [pgT_o (by decide) (by decide)]
  unfold tkH
  rw [gI_ne (by decide), gI_ne (by decide), gI_ne (by decide), gI_ne (by decide), gI_eq, pgZ_o (by decide) (by decide)]
theorem pg_75 : gI (pgH h r) 75 = pre (r.2.2 75) (nS r.2.2) (gI h 75) := by
  unfold pgH
  rw [pgT_o (by decide) (by decide)]
  unfold tkH
  rw [gI_ne (by decide), gI_ne (by decide), gI_ne (by decide), gI_eq, pgZ_o (by decide) (by decide)]
theorem pg_76 : gI (pgH h r) 76 = pre (r.2.2 76) (nS r.2.2) (gI h 76) := by
  unfold pgH
  rw [pgT_o (by decide) (by decide)]
  unfold tkH
  rw [gI_ne (by decide), gI_ne (by decide), gI_eq, pgZ_o (by decide) (by decide)]
theorem pg_77 : gI (pgH h r) 77 = pre (r.2.2 77) (4 * nS r.2.2) (gI h 77) := by
  unfold pgH
  rw [pgT_o (by decide) (by decide)]
  unfold tkH
  rw [gI_ne (by decide), gI_eq, pgZ_o (by decide) (by decide)]
theorem pg_89 : gI (pgH h r) 89 = pre (fun _ => -1) 12 (gI h 89) := by
  unfold pgH
  rw [pgT_o (by decide) (by decide)]
  unfold tkH
  rw [gI_eq, pgZ_o (by decide) (by decide)]
theorem pg_o {o : Nat} (h1 : o ≠ 65) (h2 : o ≠ 91) (h3 : ¬ (68 ≤ o ∧ o ≤ 77)) (h4 : ¬ (78 ≤ o ∧ o ≤ 87)) (h5 : o ≠ 89) : gI (pgH h r) o = gI h o := by
  unfold pgH
  rw [pgT_o h1 h2]
  unfold tkH
  rw [gI_ne h5, gI_ne (by omega), gI_ne (by omega), gI_ne (by omega), gI_ne (by omega), gI_ne (by omega), gI_ne (by omega), gI_ne (by omega), gI_ne (by omega), gI_ne (by omega), gI_ne (by omega), pgZ_o h1 h4]
theorem pg_67 : gI (pgH h r) 67 = gI h 67 := pg_o (by decide) (by decide) (by decide) (by decide) (by decide)
theorem pgY_91 {Y : abH} {A : Nat → Nat → Int32} : gI (pgT Y A) 91 = pre (fun _ => -1) 12 (gI Y 91) := by
  unfold pgT agH
  rw [gI_eq, pI_def, gI_ne (by decide), pI_def, gI_ne (by decide), pI_def, gI_ne (by decide)]
theorem pg_91 : gI (pgH h r) 91 = pre (fun _ => -1) 12 (gI h 91) := by
  unfold pgH
  rw [pgY_91]
  unfold tkH
  rw [gI_ne (by decide), gI_ne (by decide), gI_ne (by decide), gI_ne (by decide), gI_ne (by decide), gI_ne (by decide), gI_ne (by decide), gI_ne (by decide), gI_ne (by decide), gI_ne (by decide), gI_ne (by decide), pgZ_o (by decide) (by decide)]
/-- the numbers beside the arrays -/
theorem pgT_65 {Y : abH} {A : Nat → Nat → Int32} : gI (pgT Y A) 65 = upd (upd (upd (upd (upd (gI Y 65) 2 (gI Y 65 2 + nI 1)) 26 (nI 0)) 36 (nI 0)) 32 (nI 0)) 33 (nI 0) := by
  unfold pgT agH
  rw [gI_ne (by decide), gI_eq]
  unfold agF
  simp only [pI_def, gI_eq]
theorem pg_65 : gI (pgH h r) 65 = upd (upd (upd (upd (upd (upd (upd (upd (upd (gI h 65) 45 (nI r.2.1)) 15 (r.2.2 65 4)) 1 (nI 0)) 4 (r.2.2 65 4)) 2 (gI h 65 2 + nI 1)) 26 (nI 0)) 36 (nI 0)) 32 (nI 0)) 33 (nI 0) := by
  have e : gI (tkH (pI (pgF h r) 65 4 (r.2.2 65 4)) r.2.2 12 48 (nS r.2.2) (4 * nS r.2.2)) 65 = upd (upd (upd (upd (gI h 65) 45 (nI r.2.1)) 15 (r.2.2 65 4)) 1 (nI 0)) 4 (r.2.2 65 4) := by
    unfold tkH
    rw [gI_ne (by decide), gI_ne (by decide), gI_ne (by decide), gI_ne (by decide), gI_ne (by decide), gI_ne (by decide), gI_ne (by decide), gI_ne (by decide), gI_ne (by decide), gI_ne (by decide), gI_ne (by decide)]
    unfold pgF
    rw [pI_def, gI_eq, pI_def, gI_eq, nwH_I]
    unfold nwF
    rw [if_neg (by decide), if_pos rfl]
  unfold pgH
  rw [pgT_65, e]
  rfl
theorem pg_4 : gI (pgH h r) 65 4 = r.2.2 65 4 := by
  rw [pg_65]
  rfl
theorem nwH_R {a o k : Nat} {A : Nat → Nat → Int32} : gR (nwH h a A) o k = gR h o k := rfl
theorem pg_R {o k : Nat} : gR (pgH h r) o k = gR h o k := by
  unfold pgH pgT agH tkH pgF
  simp only [pI_def, gR_pA, nwH_R]
theorem pv_pg {h' : abH} (e : ∀ o, 65 ≤ o → gI h' o = gI h o) : pv (pgH h' r) = pv (pgH h r) := by
  refine pv_cg (fun o k hq => ?_) (by rw [pg_4, pg_4])
  rcases (show o = 67 ∨ o = 68 ∨ o = 69 ∨ o = 70 ∨ o = 71 ∨ o = 72 ∨ o = 73 ∨ o = 74 ∨ o = 75 ∨ o = 76 ∨ o = 77 by omega) with rfl | rfl | rfl | rfl | rfl | rfl | rfl | rfl | rfl | rfl | rfl
  · rw [pg_67, pg_67, e 67 (by omega)]
  · rw [pg_68, pg_68, e 68 (by omega)]
  · rw [pg_69, pg_69, e 69 (by omega)]
  · rw [pg_70, pg_70, e 70 (by omega)]
  · rw [pg_71, pg_71, e 71 (by omega)]
  · rw [pg_72, pg_72, e 72 (by omega)]
  · rw [pg_73, pg_73, e 73 (by omega)]
  · rw [pg_74, pg_74, e 74 (by omega)]
  · rw [pg_75, pg_75, e 75 (by omega)]
  · rw [pg_76, pg_76, e 76 (by omega)]
  · rw [pg_77, pg_77, e 77 (by omega)]
theorem pv_at {o : Nat} (ho : 67 ≤ o ∧ o ≤ 77) : pv h o = gI h o := if_pos ho
theorem AG_pg (W : okW r.2.2) : AG r.2.2 (pv (pgH h r)) (nS r.2.2) := by
  have V := W.1
  refine ⟨fun b hb => ⟨?_, ?_, ?_, fun k hk => ?_⟩, fun s hs => ⟨?_, ?_, ?_, ?_, fun k hk => ?_⟩⟩
  · rw [pv_at (by omega), pg_68, pre_in hb]
  · rw [pv_at (by omega), pg_69, pre_in hb]
  · rw [pv_at (by omega), pg_72, pre_in hb]
  · have := (V.2.1 b hb).1.2
    rw [pv_at (by omega), pv_at (by omega), pg_70, pg_71, pre_in (by omega), pre_in (by omega)]
    exact ⟨rfl, rfl⟩
  · rw [pv_at (by omega), pg_73, pre_in hs]
  · rw [pv_at (by omega), pg_74, pre_in hs]
  · rw [pv_at (by omega), pg_75, pre_in hs]
  · rw [pv_at (by omega), pg_76, pre_in hs]
  · have hk5 : nRc r.2.2 s < 5 := (V.2.2.1 s hs).2.2.2.1.2
    rw [pv_at (by omega), pg_77, pre_in (by omega)]
/-- what a PROGRAM's beginning leaves, ahead of what is worked out anew -/
def bgX (h : abH) : abH := pI (emH (pA (pI h 29 2 (nI 0)) 45 (pre (fun _ => -1) 12 (gI h 45)))) 2 11 (nI 0)
theorem Fr_bg {R : Nat → Nat → Prop} : Fr (fun o k => (o = 29 ∧ k = 2) ∨ o = 45 ∨ (o = 50 ∧ k ≤ 1) ∨ o = 51 ∨ (o = 2 ∧ k = 11)) R h (bgX h) := by
  have e : ∀ X : abH, emH X = pA (pI (pI X 50 0 (nI 0)) 50 1 (nI 0)) 51 (pre (fun _ => -1) 12 (gI X 51)) := by
    intro X
    unfold emH emF
    simp only [pI_def, pA_pA, gI_eq]
  unfold bgX
  rw [e]
  refine Fr_trans (Fr_trans (Fr_trans (Fr_trans (Fr_trans (Fr_pI ?_) (Fr_pA (fun k => ?_))) (Fr_pI ?_)) (Fr_pI ?_)) (Fr_pA (fun k => ?_))) (Fr_pI ?_) <;> omega
set_option maxHeartbeats 8000000 in
theorem t133 (H : KC h) (B : AB h) {p : Nat} (hp : p = 5 ∨ p = 17) (r21 : gR h 2 1 = .ref p) {P : Nat → Nat → Int32} (W : okW P) (C : CP h p P) (hw : ∀ l, l < 4 → gI h 52 l = P 67 l) (hQ : ∀ h', Fr rwS rnT (bgX h) h' → TM h' p P (oRD P none) → gI h' 39 0 = nI 0 → Q none h') : aM (d + 6) 133 [.ref 2] h Q := by
  have HMa : ∀ b, KC (pA (pI h 29 2 (nI 0)) 45 (pre (fun _ => -1) b (gI h 45))) := fun _ => H
  have loop := for_0 (F := fun b => aW (d + 6) 133 10 [.ref 2, .int (nI b)] [] (pA (pI h 29 2 (nI 0)) 45 (pre (fun _ => -1) b (gI h 45))) Q) (R := aW (d + 6) 133 29 [.ref 2, .int (nI 12)] [] (pA (pI h 29 2 (nI 0)) 45 (pre (fun _ => -1) 12 (gI h 45))) Q) 12 (by
    rw [s133_10]
    simp (disch := first | omega | assumption | exact gt_2 (HMa _) | exact gt_29 (HMa _) | exact gt_50 (HMa _) | (simp only [gT_pA, gT_pI, gT_pR]; first | assumption | exact gt_2 (HMa _) | exact gt_29 (HMa _) | exact gt_50 (HMa _)) | fail) only [s133_0, s133_1, s133_4, s133_5, s133_8, s133_9, s133_11, s133_13, s133_16, s133_17, s133_20, s133_21, s133_22, s133_23, s133_26, s133_30, s133_33, s133_36, s133_37, s133_38, s133_41, s133_42, s133_45, aj_45 (HMa _), gr_2_3 (HMa _), gr_2_6 (HMa _), gr_2_9 (HMa _), gt_2 (HMa _), gt_29 (HMa _), gt_50 (HMa _), am133, isRf_ref, true_and, and_true, aPs_s, aPs_n, b01_0, b01_1, nI_clamp, ix_nI, inb_nI, lt_nI, eq_nI, nn_nI, eq0_nI, pk_mul, nI_add, lt_T, lt_F, if_true, if_false, true_and, and_true, neg1_nI, neg1_lt, neg1_neg, lt_neg1, eqN_F, eq_self,  Nat.lt_irrefl]) (fun b hb => by
    have up := pre_pI (h := pI h 29 2 (nI 0)) (o := 45) (X := fun _ => -1) (k := b) (G := gI h 45) (x := -1) rfl
    rw [s133_10]
    simp (disch := first | omega | assumption | exact gt_2 (HMa _) | exact gt_29 (HMa _) | exact gt_50 (HMa _) | (simp only [gT_pA, gT_pI, gT_pR]; first | assumption | exact gt_2 (HMa _) | exact gt_29 (HMa _) | exact gt_50 (HMa _)) | fail) only [s133_0, s133_1, s133_4, s133_5, s133_8, s133_9, s133_11, s133_13, s133_16, s133_17, s133_20, s133_21, s133_22, s133_23, s133_26, s133_30, s133_33, s133_36, s133_37, s133_38, s133_41, s133_42, s133_45, aj_45 (HMa _), gr_2_3 (HMa _), gr_2_6 (HMa _), gr_2_9 (HMa _), gt_2 (HMa _), gt_29 (HMa _), gt_50 (HMa _), am133, isRf_ref, true_and, and_true, aPs_s, aPs_n, b01_0, b01_1, nI_clamp, ix_nI, inb_nI, lt_nI, eq_nI, nn_nI, eq0_nI, pk_mul, nI_add, lt_T, lt_F, if_true, if_false, true_and, and_true, neg1_nI, neg1_lt, neg1_neg, lt_neg1, eqN_F, eq_self,  hb, up])
  have e0 : pA (pI h 29 2 (nI 0)) 45 (pre (fun _ => -1) 0 (gI h 45)) = pI h 29 2 (nI 0) := by rw [pre_0]; exact pA_self (h := pI h 29 2 (nI 0)) (o := 45)
  rw [e0] at loop
  have c1' : ∀ Q', aM (d + 5) 1 [.ref 50] (pA (pI h 29 2 (nI 0)) 45 (pre (fun _ => -1) 12 (gI h 45))) Q' = Q' none (emH (pA (pI h 29 2 (nI 0)) 45 (pre (fun _ => -1) 12 (gI h 45)))) := fun Q' => c1 (HMa 12)
  have H3 : KC (emH (pA (pI h 29 2 (nI 0)) 45 (pre (fun _ => -1) 12 (gI h 45)))) := H
  have H4 : KC (bgX h) := H
  have t2a := gt_2 H3
  have t2b := gt_2 H4
  simp (disch := first | omega | assumption | exact gt_2 H | exact gt_29 H | exact gt_50 H | (simp only [gT_pA, gT_pI, gT_pR]; first | assumption | exact gt_2 H | exact gt_29 H | exact gt_50 H) | fail) only [s133_0, s133_1, s133_4, s133_5, s133_8, s133_9, s133_11, s133_13, s133_16, s133_17, s133_20, s133_21, s133_22, s133_23, s133_26, s133_30, s133_33, s133_36, s133_37, s133_38, s133_41, s133_42, s133_45, aj_45 H, gr_2_3 H, gr_2_6 H, gr_2_9 H, gt_2 H, gt_29 H, gt_50 H, am133, isRf_ref, true_and, and_true, aPs_s, aPs_n, b01_0, b01_1, nI_clamp, ix_nI, inb_nI, lt_nI, eq_nI, nn_nI, eq0_nI, pk_mul, nI_add, lt_T, lt_F, if_true, if_false, true_and, and_true, neg1_nI, neg1_lt, neg1_neg, lt_neg1, eqN_F, eq_self,  b01_0]
  rw [loop, s133_29]
  simp (disch := first | omega | assumption | exact gt_2 (HMa _) | exact gt_29 (HMa _) | exact gt_50 (HMa _) | (simp only [gT_pA, gT_pI, gT_pR]; first | assumption | exact gt_2 (HMa _) | exact gt_29 (HMa _) | exact gt_50 (HMa _)) | fail) only [s133_0, s133_1, s133_4, s133_5, s133_8, s133_9, s133_11, s133_13, s133_16, s133_17, s133_20, s133_21, s133_22, s133_23, s133_26, s133_30, s133_33, s133_36, s133_37, s133_38, s133_41, s133_42, s133_45, aj_45 (HMa _), gr_2_3 (HMa _), gr_2_6 (HMa _), gr_2_9 (HMa _), gt_2 (HMa _), gt_29 (HMa _), gt_50 (HMa _), am133, isRf_ref, true_and, and_true, aPs_s, aPs_n, b01_0, b01_1, nI_clamp, ix_nI, inb_nI, lt_nI, eq_nI, nn_nI, eq0_nI, pk_mul, nI_add, lt_T, lt_F, if_true, if_false, true_and, and_true, neg1_nI, neg1_lt, neg1_neg, lt_neg1, eqN_F, eq_self,  c1', t2a, b01_0]
  have F := Fr_bg (h := h) (R := rT)
  refine t134 (h := bgX h) (d := d) H4 (AB_of rfl B) hp r21 (tl := none) W (CPg_of (fun o k q1 q2 => F.2.2 o k (by omega)) C) (fun l hl => (F.2.2 52 l (by omega)).trans (hw l hl)) (fun f hf => by cases hf) rfl (fun f hf => by cases hf) (fun h1 F1 T1 e39 => ?_)
  have H5 : KC h1 := Fr_KC (Fr_rp (Fr_mono F1 (fun _ _ q => q) rn_r)) pT_C H4
  simp (disch := first | omega | assumption | exact gt_2 H5 | exact gt_29 H5 | exact gt_50 H5 | (simp only [gT_pA, gT_pI, gT_pR]; first | assumption | exact gt_2 H5 | exact gt_29 H5 | exact gt_50 H5) | fail) only [s133_0, s133_1, s133_4, s133_5, s133_8, s133_9, s133_11, s133_13, s133_16, s133_17, s133_20, s133_21, s133_22, s133_23, s133_26, s133_30, s133_33, s133_36, s133_37, s133_38, s133_41, s133_42, s133_45, aj_45 H5, gr_2_3 H5, gr_2_6 H5, gr_2_9 H5, gt_2 H5, gt_29 H5, gt_50 H5, am133, isRf_ref, true_and, and_true, aPs_s, aPs_n, b01_0, b01_1, nI_clamp, ix_nI, inb_nI, lt_nI, eq_nI, nn_nI, eq0_nI, pk_mul, nI_add, lt_T, lt_F, if_true, if_false, true_and, and_true, neg1_nI, neg1_lt, neg1_neg, lt_neg1, eqN_F, eq_self, ]
  exact hQ h1 F1 T1 e39
/-- where nothing lies that is kept beside a program at p -/
def D2p (p : Nat) : Nat → Nat → Prop := fun o k => (o = 65 ∧ (k = 4 ∨ k = 26)) ∨ (67 ≤ o ∧ o ≤ 77) ∨ o = 88 ∨ (o = 29 ∧ (k = 2 ∨ k = 3)) ∨ (31 ≤ o ∧ o ≤ 38) ∨ (p ≤ o ∧ o ≤ p + 11) ∨ o = 52
theorem R2_frp {h' : abH} {S : Nat → Nat → Prop} {p : Nat} {P : Nat → Nat → Int32} {tl : Option (Nat → Nat)} (F : Fr S dT h h') (hD : ∀ o k, D2p p o k → ¬ S o k) (R : R2 h p P tl) : R2 h' p P tl := by
  obtain ⟨a1, a2, a3, a4, a5, a6, a7, a8, a9, a10⟩ := R
  have e : ∀ o k, D2p p o k → gI h' o k = gI h o k := fun o k q => F.2.2 o k (hD o k q)
  have r : ∀ o k, ¬ dT o k → gR h' o k = gR h o k := F.2.1
  refine ⟨a1, ?_, ?_, ?_, a5, a6, ?_, ?_, fun l hl => ?_, ?_⟩
  · rw [r 2 1 (by unfold dT; omega)]; exact a2
  · rw [r 2 2 (by unfold dT; omega)]; exact a3
  · rw [pv_cg (fun o k q => e o k (by unfold D2p; omega)) (e 65 4 (by unfold D2p; omega))]; exact a4
  · exact toH_cg (e 65 26 (by unfold D2p; omega)) (fun k => e 88 k (by unfold D2p; omega)) a7
  · rw [e 29 2 (by unfold D2p; omega)]; exact a8
  · rw [e 52 l (by unfold D2p; omega)]; exact a9 l hl
  · obtain ⟨⟨c1, c2⟩, ⟨-, l1, l2⟩, t1, t2⟩ := a10
    have C : CP h' p P := CPg_of (fun o k q1 q2 => e o k (by unfold D2p; omega)) c1
    exact ⟨⟨C, (r 29 1 (by unfold dT; omega)).trans c2⟩, ⟨C, LD_cg (fun o k q => e o k (by unfold D2p; omega)) l1, (r 30 0 (by unfold dT; omega)).trans l2⟩, (e 29 3 (by unfold D2p; omega)).trans t1, fun o ho => ⟨(t2 o ho).1, TL_cg (fun o k q => e o k (by unfold D2p; omega)) (t2 o ho).2⟩⟩
def SPF (q : Nat) : Nat → Nat → Prop := fun o k => o = 3 ∨ (q ≤ o ∧ o ≤ q + 11) ∨ (78 ≤ o ∧ o ≤ 87) ∨ (o = 65 ∧ (k = 45 ∨ k = 15 ∨ k = 1))
def SPG (q : Nat) : Nat → Nat → Prop := fun o k => o = 3 ∨ (q ≤ o ∧ o ≤ q + 11) ∨ rwS o k ∨ (o = 29 ∧ k = 2) ∨ o = 45 ∨ (o = 50 ∧ k ≤ 1) ∨ o = 51 ∨ (o = 2 ∧ (k = 11 ∨ k = 13)) ∨ (68 ≤ o ∧ o ≤ 89) ∨ o = 91 ∨ (o = 65 ∧ (k = 1 ∨ k = 2 ∨ k = 4 ∨ k = 15 ∨ k = 26 ∨ k = 32 ∨ k = 33 ∨ k = 36 ∨ k = 45))
theorem SPG_q {q : Nat} : ∀ o k : Nat, (o = 3 ∨ (q ≤ o ∧ o ≤ q + 11)) → SPG q o k := fun _ _ hq => hq.elim Or.inl (fun z => Or.inr (Or.inl z))
theorem SPG_9 {q o k : Nat} (h : 68 ≤ o ∧ o ≤ 89) : SPG q o k := Or.inr (Or.inr (Or.inr (Or.inr (Or.inr (Or.inr (Or.inr (Or.inr (Or.inl h))))))))
theorem SPG_65 {q k : Nat} (h : k = 1 ∨ k = 2 ∨ k = 4 ∨ k = 15 ∨ k = 26 ∨ k = 32 ∨ k = 33 ∨ k = 36 ∨ k = 45) : SPG q 65 k := Or.inr (Or.inr (Or.inr (Or.inr (Or.inr (Or.inr (Or.inr (Or.inr (Or.inr (Or.inr ⟨rfl, h⟩)))))))))
theorem SPG_91 {q k : Nat} : SPG q 91 k := Or.inr (Or.inr (Or.inr (Or.inr (Or.inr (Or.inr (Or.inr (Or.inr (Or.inr (Or.inl rfl)))))))))
theorem SPG_nw {q : Nat} : ∀ o k : Nat, ((78 ≤ o ∧ o ≤ 87) ∨ (o = 65 ∧ (k = 45 ∨ k = 15))) → SPG q o k := by
  rintro o k (⟨a, b⟩ | ⟨rfl, rfl | rfl⟩)
  · exact SPG_9 ⟨by omega, by omega⟩
  · exact SPG_65 (by decide)
  · exact SPG_65 (by decide)
theorem SPG_bg {q : Nat} : ∀ o k : Nat, ((o = 29 ∧ k = 2) ∨ o = 45 ∨ (o = 50 ∧ k ≤ 1) ∨ o = 51 ∨ (o = 2 ∧ k = 11)) → SPG q o k := by
  rintro o k (h | h | h | h | ⟨h, h2⟩)
  · exact Or.inr (Or.inr (Or.inr (Or.inl h)))
  · exact Or.inr (Or.inr (Or.inr (Or.inr (Or.inl h))))
  · exact Or.inr (Or.inr (Or.inr (Or.inr (Or.inr (Or.inl h)))))
  · exact Or.inr (Or.inr (Or.inr (Or.inr (Or.inr (Or.inr (Or.inl h))))))
  · exact Or.inr (Or.inr (Or.inr (Or.inr (Or.inr (Or.inr (Or.inr (Or.inl ⟨h, Or.inl h2⟩)))))))
theorem Fr_pg {q : Nat} {R : Nat → Nat → Prop} : Fr (SPG q) R h (pgH h r) := by
  have e1 : ∀ X : abH, agH X = pA (pI (pI X 65 32 (nI 0)) 65 33 (nI 0)) 91 (pre (fun _ => -1) 12 (gI X 91)) := by
    intro X
    unfold agH agF
    simp only [pI_def, pA_pA, gI_eq]
  have F1 : Fr (SPG q) R h (pgF h r) := Fr_trans (Fr_mono Fr_nw SPG_nw (fun _ _ q => q)) (Fr_pI (SPG_65 (by decide)))
  unfold pgH pgT tkH
  rw [e1]
  generalize pgF h r = X at F1
  refine Fr_trans F1 ?_
  refine Fr_trans (Fr_trans (Fr_trans (Fr_trans (Fr_trans (Fr_trans (Fr_trans (Fr_trans (Fr_trans (Fr_trans (Fr_trans (Fr_trans (Fr_trans (Fr_trans (Fr_trans (Fr_trans (Fr_trans (Fr_pI ?_) (Fr_pA (fun k => ?_))) (Fr_pA (fun k => ?_))) (Fr_pA (fun k => ?_))) (Fr_pA (fun k => ?_))) (Fr_pA (fun k => ?_))) (Fr_pA (fun k => ?_))) (Fr_pA (fun k => ?_))) (Fr_pA (fun k => ?_))) (Fr_pA (fun k => ?_))) (Fr_pA (fun k => ?_))) (Fr_pA (fun k => ?_))) (Fr_pI ?_)) (Fr_pI ?_)) (Fr_pI ?_)) (Fr_pI ?_)) (Fr_pI ?_)) (Fr_pA (fun k => ?_)) <;> first | exact SPG_65 (by decide) | exact SPG_9 ⟨by decide, by decide⟩ | exact SPG_91
end RA
