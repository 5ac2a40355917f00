/-! BOTH SIDES, call by call: what is worked out anew: LETTERS, THE ORDER, THE IMAGE taken back -/
theorem AG_wP {P : Nat → Nat → Int32} {w : Nat → Int32} {N : Nat} : AG P (wP P w) N := ⟨fun b hb => ⟨rfl, rfl, rfl, fun k hk => ⟨rfl, rfl⟩⟩, fun s hs => ⟨rfl, rfl, rfl, rfl, fun k hk => rfl⟩⟩
theorem okW_wP {P : Nat → Nat → Int32} {w : Nat → Int32} (W : okW P) (hw : ∀ l, l < 4 → bn (w l) 100) : okW (wP P w) := okW_cg W AG_wP rfl hw
theorem nS_wP {P : Nat → Nat → Int32} {w : Nat → Int32} : nS (wP P w) = nS P := rfl
theorem ordV_wP {P : Nat → Nat → Int32} {w : Nat → Int32} {f : Nat → Nat} (O : ordV P f) : ordV (wP P w) f := fun k hk => O k hk
theorem tlV_wP {P : Nat → Nat → Int32} {w : Nat → Int32} {tl : Option (Nat → Nat)} (T : tlV P tl) : tlV (wP P w) tl := fun f hf => ordV_wP (T f hf)
theorem wP_wP {P : Nat → Nat → Int32} {w w' : Nat → Int32} : wP (wP P w) w' = wP P w' := by
  funext o
  unfold wP
  by_cases e : o = 67
  · rw [if_pos e, if_pos e]
  · rw [if_neg e, if_neg e, if_neg e]
theorem CP_RG {h : abH} {p : Nat} {A : Nat → Nat → Int32} : CP h p A ↔ RG (rxV h p) A (nS A) (nS A) := Iff.rfl
theorem CP_wP {h : abH} {p : Nat} {P : Nat → Nat → Int32} {w : Nat → Int32} (C : CP h p P) : CP h p (wP P w) := CP_RG.mpr (RG_cg (A := P) (N := nS P) (CP_RG.mp C) AG_wP)
theorem zSz_w {P : Nat → Nat → Int32} (V : okP P) {w w' : Nat → Int32} (hw : ∀ l, l < 4 → w l = w' l) {b : Nat} (hb : b < 12) : ∀ {k : Nat}, k ≤ ix (P 69 b) → zSz (wP P w) b k = zSz (wP P w') b k := by
  intro k
  induction k with
  | zero => intro _; rfl
  | succ k ih =>
    intro hk
    obtain ⟨q1, q2⟩ := (V.2.1 b hb).2.2.2 k (by omega)
    rw [zSz, zSz, ih (by omega)]
    have e70 : ∀ w, wP P w 70 = P 70 := fun _ => rfl
    have e71 : ∀ w, wP P w 71 = P 71 := fun _ => rfl
    have e67 : ∀ w, wP P w 67 = w := fun _ => rfl
    simp only [e70, e71, e67]
    by_cases g : P 71 (4 * b + k) = -1
    · simp only [if_pos g]
    · simp only [if_neg g]
      rw [hw _ (q1.resolve_left g).2]
theorem zS_w {P : Nat → Nat → Int32} (V : okP P) {w w' : Nat → Int32} (hw : ∀ l, l < 4 → w l = w' l) {b : Nat} (hb : b < 12) : zS (wP P w) b = zS (wP P w') b := zSz_w V hw hb (Nat.le_refl _)
theorem flK_w {P : Nat → Nat → Int32} (V : okP P) {w w' : Nat → Int32} (hw : ∀ l, l < 4 → w l = w' l) {L : Nat → Option Nat} {hi q : Nat} (K : flK (wP P w) L hi q) : flK (wP P w') L hi q := ⟨K.1, fun b hb x hx => by rw [← zS_w V hw hb]; exact K.2.1 b hb x hx, K.2.2⟩
theorem dj_w {P : Nat → Nat → Int32} (V : okP P) {w w' : Nat → Int32} (hw : ∀ l, l < 4 → w l = w' l) {L : Nat → Option Nat} (J : dj (wP P w) L) : dj (wP P w') L := by
  intro a b ha hb hn x y hx hy h1 h2
  rw [← zS_w V hw ha] at h1 ⊢
  rw [← zS_w V hw hb] at h2 ⊢
  exact J a b ha hb hn x y hx hy h1 h2
theorem oFl_V {P : Nat → Nat → Int32} (V : okP P) {c : Nat → Int32} (h : oFl P c 0 = none) : ordV P (fun k => ix (c k)) ∧ ∀ k, k < nS P → c k = nI (ix (c k)) := by
  have s10 := V.s.1
  have hn : ∀ j, j < nS P → (oCk P c (j + 1)).isNone = false := fun j hj => fst1_none.mp h j (Nat.zero_le _) (by omega)
  have key : ∀ k, k ≤ nS P → oCk P c k = some (obt (fun k => ix (c k)) k) ∧ ∀ j, j < k → c j = nI (ix (c j)) ∧ ix (c j) < nS P ∧ mRdy P (ix (c j)) (obt (fun k => ix (c k)) j) = true := by
    intro k
    induction k with
    | zero => exact fun _ => ⟨rfl, fun j hj => by omega⟩
    | succ k ih =>
      intro hk
      obtain ⟨e1, e2⟩ := ih (by omega)
      have h1 := hn k (by omega)
      rw [oCk, e1] at h1 ⊢
      simp only at h1 ⊢
      rcases plc_or (c k) (nS P) (by omega) with ⟨v, hv, ec, ep⟩ | ep
      · rw [ep] at h1 ⊢
        simp only at h1 ⊢
        have ev : ix (c k) = v := by rw [ec]; exact ix_nI (by omega)
        by_cases g : mRdy P v (obt (fun k => ix (c k)) k) = true
        · rw [if_pos g]
          refine ⟨?_, fun j hj => ?_⟩
          · rw [obt, ev]
          · by_cases e : j = k
            · subst e
              rw [ev]
              exact ⟨ec, hv, g⟩
            · exact e2 j (by omega)
        · rw [if_neg g] at h1
          cases h1
      · rw [ep] at h1
        cases h1
  have K := (key (nS P) (Nat.le_refl _)).2
  exact ⟨fun k hk => ⟨(K k hk).2.1, (K k hk).2.2⟩, fun k hk => (K k hk).1⟩
theorem told_34 {h : abH} {p : Nat} {P : Nat → Nat → Int32} {tl : Option (Nat → Nat)} (T : TM h p P (oRD P tl)) : ∀ f, tl = some f → gI h 29 3 = nI 1 ∧ ∀ k, k < nS P → gI h 34 k = nI (f k) := by
  intro f hf
  subst hf
  have f3 := T.2.2.1
  rw [oRD_is] at f3
  refine ⟨f3, fun k hk => ?_⟩
  cases ho : oRD P (some f) with
  | none =>
    have := oRD_is (P := P) (f := f)
    rw [ho] at this
    cases this
  | some o =>
    rw [← oRD_tl ho k hk]
    exact ((T.2.2.2 o ho).2.1 k hk).1
def rwS : Nat → Nat → Prop := fun o k => rnS o k ∨ (o = 39 ∧ k = 0)
theorem rn_r : ∀ o k, rnT o k → rT o k := fun o k q => Or.inr q
section R9
variable {d : Nat} {h0 h : abH} {Q : Option Value → abH → Prop}
set_option maxHeartbeats 8000000 in
theorem t134 (H : KC h) (B : AB h) {p : Nat} (hp : p = 5 ∨ p = 17) (r21 : gR h 2 1 = .ref p) {P : Nat → Nat → Int32} (W : okW P) (C : CP h p P) (hw : ∀ l, l < 4 → gI h 52 l = P 67 l) {tl : Option (Nat → Nat)} (Tv : tlV P tl) (h2 : gI h 29 2 = zB tl.isSome) (hf : ∀ f, tl = some f → gI h 29 3 = nI 1 ∧ ∀ k, k < nS P → gI h 34 k = nI (f k)) (hQ : ∀ h', Fr rwS rnT h h' → TM h' p P (oRD P tl) → gI h' 39 0 = nI 0 → Q none h') : aM (d + 5) 134 [.ref 2] h Q := by
  simp (disch := first | omega | assumption | exact gt_2 H | exact gt_29 H | exact gt_39 H | exact gt_50 H | (simp only [gT_pA, gT_pI, gT_pR]; first | assumption | exact gt_2 H | exact gt_29 H | exact gt_39 H | exact gt_50 H) | fail) only [s134_0, s134_1, s134_4, s134_5, s134_8, s134_9, s134_12, s134_15, s134_18, s134_19, s134_22, s134_23, s134_26, gr_2_3 H, gr_2_4 H, gr_2_9 H, gr_50_4 H, gt_2 H, gt_29 H, gt_39 H, gt_50 H, am134, isRf_ref, true_and, and_true, aPs_s, aPs_n, b01_0, b01_1, nI_clamp, ix_nI, inb_nI, lt_nI, eq_nI, nn_nI, eq0_nI, pk_mul, nI_add, lt_T, lt_F, if_true, if_false, true_and, and_true, neg1_nI, neg1_lt, neg1_neg, lt_neg1, eqN_F, eq_self,  r21]
  refine t82 (d := d) H B hp W C hw Tv h2 hf (fun h1 F T => ?_)
  have H1 : KC h1 := Fr_KC (Fr_rp (Fr_mono F (fun _ _ q => q) rn_r)) pT_C H
  simp (disch := first | omega | assumption | exact gt_2 H1 | exact gt_29 H1 | exact gt_39 H1 | exact gt_50 H1 | (simp only [gT_pA, gT_pI, gT_pR]; first | assumption | exact gt_2 H1 | exact gt_29 H1 | exact gt_39 H1 | exact gt_50 H1) | fail) only [s134_0, s134_1, s134_4, s134_5, s134_8, s134_9, s134_12, s134_15, s134_18, s134_19, s134_22, s134_23, s134_26, gr_2_3 H1, gr_2_4 H1, gr_2_9 H1, gr_50_4 H1, gt_2 H1, gt_29 H1, gt_39 H1, gt_50 H1, am134, isRf_ref, true_and, and_true, aPs_s, aPs_n, b01_0, b01_1, nI_clamp, ix_nI, inb_nI, lt_nI, eq_nI, nn_nI, eq0_nI, pk_mul, nI_add, lt_T, lt_F, if_true, if_false, true_and, and_true, neg1_nI, neg1_lt, neg1_neg, lt_neg1, eqN_F, eq_self,  b01_0]
  refine hQ _ (Fr_trans (Fr_mono F (fun _ _ q => Or.inl q) (fun _ _ q => q)) (Fr_pI (Or.inr ⟨rfl, rfl⟩))) ?_ (by rw [pI_def, gI_eq, upd_eq])
  exact TM_cg (h := h1) hp (fun o k q => by rw [pI_def, gI_ne (by omega)]) rfl rfl T
/-- all is kept but what is worked out anew and what S says; THE PROGRAM, THE ORDER, the FLOOR, THE IMAGE are told anew -/
theorem Rel_rn {S : Nat → Nat → Prop} {h0 h h' : abH} {p : Nat} {P' : Nat → Nat → Int32} {tl' : Option (Nat → Nat)} (F : Fr S rT h h') (d1 : ∀ o k, D1 o k → ¬ S o k) (d4 : ∀ o k, D4 o k → ¬ S o k) (d5 : ∀ o k, D5 o k → ¬ S o k) (d6 : ∀ o k, D6 o k → ¬ S o k) (d9 : ∀ o k, D9 o k → ¬ S o k) (da : ∀ o k, DA o k → ¬ S o k) (db : ∀ o k, DB o k → ¬ S o k) (r1 : R1 h0 h) (r2 : R2 h' p P' tl') (e39 : gI h' 39 0 = nI 0) (r4 : R4 h) (r5 : R5 h) (r6 : R6 h) (r7 : R7 h' P') (r8 : R8 h' P') (r9 : R9 h) (ra : RA h) (rb : RB h) : Rel h0 h' := ⟨p, P', tl', R1_fr (Fr_rp F) d1 r1, r2, ⟨by rw [e39]; exact Or.inl rfl, fun q => (q e39).elim⟩, R4_fr F d4 r4, R5_fr F d5 r5, R6_fr F d6 r6, r7, r8, R9_fr F d9 r9, RA_fr F da ra, RB_fr F db rb⟩
set_option maxHeartbeats 8000000 in
theorem p_letter (R : Rel h0 h) {l v : Int32} : Pr d h0 h 97 152 [.ref 2, .int l, .int v] [.ref 65, .int l, .int v] := by
  have R' := R
  obtain ⟨p, P, tl, r1, r2, r3, r4, r5, r6, r7, r8, r9, ra, rb⟩ := R
  have R0 := r1
  obtain ⟨-, -, H, HM, AB0⟩ := R0
  have R0 := r2
  obtain ⟨hp, r21, r22, hP, W, Tv, T, h29, hw, TMh⟩ := R0
  have V := W.1
  have s10 := V.s.1
  have C := TMh.1.1
  have f3 := TMh.2.2.1
  have t2 := TMh.2.2.2
  obtain ⟨L, hi, q, rl, a1, a2, a3, a4, a5, a6, a7, a8, a9, K, J⟩ := r7
  have ql : q < 2 ^ 31 := by omega
  rcases plc_cases l 4 (by omega) with ⟨j, hj, rfl, e⟩ | ⟨e, f1, f2⟩ | ⟨e, f1, f2, f3, f4⟩
  · rcases plc_cases v 100 (by omega) with ⟨x, hx, rfl, e2⟩ | ⟨e2, g1, g2⟩ | ⟨e2, g1, g2, g3, g4⟩
    · have l1 : ¬ nI 99 < nI x := by rw [lt_nI (by omega) (by omega)]; omega
      by_cases h1 : 0 < q
      · refine Pr_e (h1 := h) (h2 := h) (v := -3) (fun Q => ?_) (fun Q => by rw [c152 HM a5 ql, e, e2]; simp only [h1, if_true]) R'
        simp (disch := first | omega | assumption | exact gt_2 H | exact gt_50 H | (simp only [gT_pA, gT_pI, gT_pR]; first | assumption | exact gt_2 H | exact gt_50 H) | fail) only [s97_0, s97_1, s97_4, s97_5, s97_6, s97_9, s97_10, s97_11, s97_12, s97_15, s97_16, s97_18, s97_21, s97_23, s97_24, s97_25, s97_28, s97_31, s97_34, s97_36, s97_37, s97_38, s97_41, s97_44, s97_45, s97_46, s97_47, s97_48, s97_51, s97_54, s97_55, s97_56, s97_57, s97_58, s97_61, s97_62, ai_52 H, aj_52 H, gr_2_9 H, gr_50_4 H, gt_2 H, gt_50 H, am97, isRf_ref, true_and, and_true, aPs_s, aPs_n, b01_0, b01_1, nI_clamp, ix_nI, inb_nI, lt_nI, eq_nI, nn_nI, eq0_nI, pk_mul, nI_add, lt_T, lt_F, if_true, if_false, true_and, and_true, neg1_nI, neg1_lt, neg1_neg, lt_neg1, eqN_F, eq_self,  nn_nI, hj, l1, a4, p0_nI, h1]
      · have q0 : q = 0 := by omega
        subst q0
        have e52 : gI h 52 j = P 67 j := hw j hj
        have e67 : gI h 67 = P 67 := by rw [← hP]; rfl
        have w1 : ∀ i, i < 4 → bn (upd (P 67) j (nI x) i) 100 := by
          intro i hi
          by_cases e : i = j
          · subst e; rw [upd_eq]; exact bn_nI hx (by omega)
          · rw [upd_ne e]; exact V.2.2.2 i hi
        intro Q1 hQ1
        simp (disch := first | omega | assumption | exact gt_2 H | exact gt_50 H | (simp only [gT_pA, gT_pI, gT_pR]; first | assumption | exact gt_2 H | exact gt_50 H) | fail) only [s97_0, s97_1, s97_4, s97_5, s97_6, s97_9, s97_10, s97_11, s97_12, s97_15, s97_16, s97_18, s97_21, s97_23, s97_24, s97_25, s97_28, s97_31, s97_34, s97_36, s97_37, s97_38, s97_41, s97_44, s97_45, s97_46, s97_47, s97_48, s97_51, s97_54, s97_55, s97_56, s97_57, s97_58, s97_61, s97_62, ai_52 H, aj_52 H, gr_2_9 H, gr_50_4 H, gt_2 H, gt_50 H, am97, isRf_ref, true_and, and_true, aPs_s, aPs_n, b01_0, b01_1, nI_clamp, ix_nI, inb_nI, lt_nI, eq_nI, nn_nI, eq0_nI, pk_mul, nI_add, lt_T, lt_F, if_true, if_false, true_and, and_true, neg1_nI, neg1_lt, neg1_neg, lt_neg1, eqN_F, eq_self,  nn_nI, hj, l1, a4, p0_nI, h1, e52]
        have HX : KC (pI h 52 j (nI x)) := H
        have F0 : Fr (fun o k => o = 52 ∨ rwS o k ∨ o = 67) rT h (pI h 52 j (nI x)) := Fr_pI (Or.inl rfl)
        refine t134 (d := d + 14) HX AB0 hp r21 (P := wP P (upd (P 67) j (nI x))) (okW_wP W w1) (CP_wP (CPg_of (fun o k q1 q2 => by rw [pI_def, gI_ne (by omega)]) C)) (fun i hi => ?_) (tlV_wP Tv) (by rw [pI_def, gI_ne (by omega)]; exact h29) (fun f hf => ?_) (fun X1 F1 T1 e39 => ?_)
        · show upd (gI h 52) j (nI x) i = upd (P 67) j (nI x) i
          by_cases e : i = j
          · subst e; rw [upd_eq, upd_eq]
          · rw [upd_ne e, upd_ne e]; exact hw i hi
        · have := told_34 TMh f hf
          refine ⟨?_, fun k hk => ?_⟩
          · rw [pI_def, gI_ne (by omega)]; exact this.1
          · rw [pI_def, gI_ne (by omega)]; exact this.2 k hk
        · have F01 := Fr_trans F0 (Fr_mono F1 (fun _ _ q => Or.inr (Or.inl q)) rn_r)
          have e65 : ∀ o k, 65 ≤ o → gI X1 o k = gI h o k := fun o k q => by
            rw [F1.2.2 o k (by unfold rwS rnS; omega), pI_def, gI_ne (by omega)]
          have M1 : KM X1 := Fr_KM (Fr_rp F01) pT_M HM
          have P1 : pv X1 = P := (pv_cg (fun o k q => e65 o k (by omega)) (e65 65 4 (by omega))).trans hP
          have x67 : gI X1 67 = P 67 := by rw [← P1]; rfl
          have F : Fr (fun o k => o = 52 ∨ rwS o k ∨ o = 67) rT h (pI X1 67 j (nI x)) := Fr_trans F01 (Fr_pI (Or.inr (Or.inr rfl)))
          have P2 : pv (pI X1 67 j (nI x)) = wP P (upd (P 67) j (nI x)) := by
            funext o
            by_cases e : o = 67
            · subst e
              show upd (gI X1 67) j (nI x) = upd (P 67) j (nI x)
              rw [x67]
            · unfold wP
              rw [if_neg e, ← P1]
              unfold pv
              by_cases g : 67 ≤ o ∧ o ≤ 77
              · rw [if_pos g, if_pos g, pI_def, gI_ne e]
              · rw [if_neg g, if_neg g]
                by_cases g2 : o = 65
                · rw [if_pos g2, if_pos g2]
                  rfl
                · rw [if_neg g2, if_neg g2]
          have r2' : R2 (pI X1 67 j (nI x)) p (wP P (upd (P 67) j (nI x))) tl := by
            refine ⟨hp, ?_, ?_, P2, okW_wP W w1, tlV_wP Tv, ?_, ?_, fun i hi => ?_, ?_⟩
            · rw [F.2.1 2 1 (by unfold rT; omega)]; exact r21
            · rw [F.2.1 2 2 (by unfold rT; omega)]; exact r22
            · exact toH_cg (F.2.2 65 26 (by unfold rwS rnS; omega)) (fun k => F.2.2 88 k (by unfold rwS rnS; omega)) T
            · rw [F.2.2 29 2 (by unfold rwS rnS; omega)]; exact h29
            · rw [pI_def, gI_ne (by omega), F1.2.2 52 i (by unfold rwS rnS; omega)]
              show upd (gI h 52) j (nI x) i = upd (P 67) j (nI x) i
              by_cases e : i = j
              · subst e; rw [upd_eq, upd_eq]
              · rw [upd_ne e, upd_ne e]; exact hw i hi
            · exact TM_cg (h := X1) hp (fun o k q => by rw [pI_def, gI_ne (by omega)]) rfl rfl T1
          have r7' : R7 h (wP P (upd (P 67) j (nI x))) := ⟨L, hi, 0, rl, a1, a2, a3, a4, a5, a6, a7, a8, a9, ⟨fun _ => K.1 rfl, fun b hb x hx => (by rw [K.1 rfl b hb] at hx; cases hx), K.2.2⟩, dj_none (K.1 rfl)⟩
          have r8' : R8 h (wP P (upd (P 67) j (nI x))) := by
            obtain ⟨b1, b2, b3⟩ := r8
            refine ⟨b1, b2, fun q => ?_⟩
            obtain ⟨L', hi', p', rl', w', c1, c2, c3, c4, c5, c6, c7, c8, c9, c10, c11, c12⟩ := b3 q
            exact ⟨L', hi', p', rl', w', c1, c2, c3, c4, c5, c6, c7, c8, c9, c10, by rw [wP_wP]; exact c11, by rw [wP_wP]; exact c12⟩
          simp (disch := first | omega | assumption | exact gt_2 H | exact gt_50 H | (simp only [gT_pA, gT_pI, gT_pR]; first | assumption | exact gt_2 H | exact gt_50 H) | fail) only [s97_0, s97_1, s97_4, s97_5, s97_6, s97_9, s97_10, s97_11, s97_12, s97_15, s97_16, s97_18, s97_21, s97_23, s97_24, s97_25, s97_28, s97_31, s97_34, s97_36, s97_37, s97_38, s97_41, s97_44, s97_45, s97_46, s97_47, s97_48, s97_51, s97_54, s97_55, s97_56, s97_57, s97_58, s97_61, s97_62, ai_52 H, aj_52 H, gr_2_9 H, gr_50_4 H, gt_2 H, gt_50 H, am97, isRf_ref, true_and, and_true, aPs_s, aPs_n, b01_0, b01_1, nI_clamp, ix_nI, inb_nI, lt_nI, eq_nI, nn_nI, eq0_nI, pk_mul, nI_add, lt_T, lt_F, if_true, if_false, true_and, and_true, neg1_nI, neg1_lt, neg1_neg, lt_neg1, eqN_F, eq_self, ]
          refine hQ1 (P 67 j) X1 (fun Q2 hQ2 => ?_)
          rw [c152 M1 (p := 0) ((e65 65 32 (by omega)).trans a5) (by omega), e, e2]
          simp only [Nat.lt_irrefl, if_false, x67]
          refine hQ2 _ (Rel_rn F ?_ ?_ ?_ ?_ ?_ ?_ ?_ r1 r2' ?_ r4 r5 r6 (R7_fr F ?_ r7') (R8_fr F ?_ r8') r9 ra rb)
          · intro o k; simp only [D1, rwS, rnS]; omega
          · intro o k; simp only [D4, rwS, rnS]; omega
          · intro o k; simp only [D5, rwS, rnS]; omega
          · intro o k; simp only [D6, rwS, rnS]; omega
          · intro o k; simp only [D9, rwS, rnS]; omega
          · intro o k; simp only [DA, rwS, rnS]; omega
          · intro o k; simp only [DB, rwS, rnS]; omega
          · rw [pI_def, gI_ne (by omega)]; exact e39
          · intro o k; simp only [D7, rwS, rnS]; omega
          · intro o k; simp only [D8, rwS, rnS]; omega
    · refine Pr_e (h1 := h) (h2 := h) (v := -2) (fun Q => ?_) (fun Q => by rw [c152 HM a5 ql, e, e2]) R'
      simp (disch := first | omega | assumption | exact gt_2 H | exact gt_50 H | (simp only [gT_pA, gT_pI, gT_pR]; first | assumption | exact gt_2 H | exact gt_50 H) | fail) only [s97_0, s97_1, s97_4, s97_5, s97_6, s97_9, s97_10, s97_11, s97_12, s97_15, s97_16, s97_18, s97_21, s97_23, s97_24, s97_25, s97_28, s97_31, s97_34, s97_36, s97_37, s97_38, s97_41, s97_44, s97_45, s97_46, s97_47, s97_48, s97_51, s97_54, s97_55, s97_56, s97_57, s97_58, s97_61, s97_62, ai_52 H, aj_52 H, gr_2_9 H, gr_50_4 H, gt_2 H, gt_50 H, am97, isRf_ref, true_and, and_true, aPs_s, aPs_n, b01_0, b01_1, nI_clamp, ix_nI, inb_nI, lt_nI, eq_nI, nn_nI, eq0_nI, pk_mul, nI_add, lt_T, lt_F, if_true, if_false, true_and, and_true, neg1_nI, neg1_lt, neg1_neg, lt_neg1, eqN_F, eq_self,  nn_nI, hj, g1]
    · have : nI 100 - nI 1 = nI 99 := by decide
      rw [this] at g4
      refine Pr_e (h1 := h) (h2 := h) (v := -2) (fun Q => ?_) (fun Q => by rw [c152 HM a5 ql, e, e2]) R'
      simp (disch := first | omega | assumption | exact gt_2 H | exact gt_50 H | (simp only [gT_pA, gT_pI, gT_pR]; first | assumption | exact gt_2 H | exact gt_50 H) | fail) only [s97_0, s97_1, s97_4, s97_5, s97_6, s97_9, s97_10, s97_11, s97_12, s97_15, s97_16, s97_18, s97_21, s97_23, s97_24, s97_25, s97_28, s97_31, s97_34, s97_36, s97_37, s97_38, s97_41, s97_44, s97_45, s97_46, s97_47, s97_48, s97_51, s97_54, s97_55, s97_56, s97_57, s97_58, s97_61, s97_62, ai_52 H, aj_52 H, gr_2_9 H, gr_50_4 H, gt_2 H, gt_50 H, am97, isRf_ref, true_and, and_true, aPs_s, aPs_n, b01_0, b01_1, nI_clamp, ix_nI, inb_nI, lt_nI, eq_nI, nn_nI, eq0_nI, pk_mul, nI_add, lt_T, lt_F, if_true, if_false, true_and, and_true, neg1_nI, neg1_lt, neg1_neg, lt_neg1, eqN_F, eq_self,  nn_nI, hj, g1, g4]
  · refine Pr_e (h1 := h) (h2 := h) (v := -1) (fun Q => ?_) (fun Q => by rw [c152 HM a5 ql, e]) R'
    simp (disch := first | omega | assumption | exact gt_2 H | exact gt_50 H | (simp only [gT_pA, gT_pI, gT_pR]; first | assumption | exact gt_2 H | exact gt_50 H) | fail) only [s97_0, s97_1, s97_4, s97_5, s97_6, s97_9, s97_10, s97_11, s97_12, s97_15, s97_16, s97_18, s97_21, s97_23, s97_24, s97_25, s97_28, s97_31, s97_34, s97_36, s97_37, s97_38, s97_41, s97_44, s97_45, s97_46, s97_47, s97_48, s97_51, s97_54, s97_55, s97_56, s97_57, s97_58, s97_61, s97_62, ai_52 H, aj_52 H, gr_2_9 H, gr_50_4 H, gt_2 H, gt_50 H, am97, isRf_ref, true_and, and_true, aPs_s, aPs_n, b01_0, b01_1, nI_clamp, ix_nI, inb_nI, lt_nI, eq_nI, nn_nI, eq0_nI, pk_mul, nI_add, lt_T, lt_F, if_true, if_false, true_and, and_true, neg1_nI, neg1_lt, neg1_neg, lt_neg1, eqN_F, eq_self,  f1]
  · refine Pr_e (h1 := h) (h2 := h) (v := -1) (fun Q => ?_) (fun Q => by rw [c152 HM a5 ql, e]) R'
    simp (disch := first | omega | assumption | exact gt_2 H | exact gt_50 H | (simp only [gT_pA, gT_pI, gT_pR]; first | assumption | exact gt_2 H | exact gt_50 H) | fail) only [s97_0, s97_1, s97_4, s97_5, s97_6, s97_9, s97_10, s97_11, s97_12, s97_15, s97_16, s97_18, s97_21, s97_23, s97_24, s97_25, s97_28, s97_31, s97_34, s97_36, s97_37, s97_38, s97_41, s97_44, s97_45, s97_46, s97_47, s97_48, s97_51, s97_54, s97_55, s97_56, s97_57, s97_58, s97_61, s97_62, ai_52 H, aj_52 H, gr_2_9 H, gr_50_4 H, gt_2 H, gt_50 H, am97, isRf_ref, true_and, and_true, aPs_s, aPs_n, b01_0, b01_1, nI_clamp, ix_nI, inb_nI, lt_nI, eq_nI, nn_nI, eq0_nI, pk_mul, nI_add, lt_T, lt_F, if_true, if_false, true_and, and_true, neg1_nI, neg1_lt, neg1_neg, lt_neg1, eqN_F, eq_self,  f1, f3]
set_option maxHeartbeats 8000000 in
theorem p_back (R : Rel h0 h) : Pr d h0 h 121 211 [.ref 2] [.ref 65] := by
  have R' := R
  obtain ⟨p, P, tl, r1, r2, r3, r4, r5, r6, r7, r8, r9, ra, rb⟩ := R
  have R0 := r1
  obtain ⟨-, -, H, HM, AB0⟩ := R0
  have R0 := r2
  obtain ⟨hp, r21, r22, hP, W, Tv, T, h29, hw, TMh⟩ := R0
  have V := W.1
  have s10 := V.s.1
  have C := TMh.1.1
  have f3 := TMh.2.2.1
  have t2 := TMh.2.2.2
  have r8o := r8
  obtain ⟨b1, b2, b3⟩ := r8
  by_cases hk : gI h 65 36 = 0
  · refine Pr_e (h1 := h) (h2 := h) (v := -3) (fun Q => ?_) (fun Q => by rw [c211 HM, if_pos hk]) R'
    simp (disch := first | omega | assumption | exact gt_2 H | exact gt_50 H | (simp only [gT_pA, gT_pI, gT_pR]; first | assumption | exact gt_2 H | exact gt_50 H) | fail) only [s121_0, s121_1, s121_4, s121_7, s121_9, s121_10, s121_11, s121_14, s121_15, s121_18, s121_21, s121_22, s121_25, s121_26, s121_29, s121_32, gr_2_10 H, gr_2_9 H, gt_2 H, gt_50 H, am121, isRf_ref, true_and, and_true, aPs_s, aPs_n, b01_0, b01_1, nI_clamp, ix_nI, inb_nI, lt_nI, eq_nI, nn_nI, eq0_nI, pk_mul, nI_add, lt_T, lt_F, if_true, if_false, true_and, and_true, neg1_nI, neg1_lt, neg1_neg, lt_neg1, eqN_F, eq_self,  b1, hk]
  · obtain ⟨L, hi, q, rl, w, a1, a2, a3, a4, a5, a6, a7, aw, a8, a9, K, J⟩ := b3 hk
    have c2b' : ∀ Q', aM (d + 19) 2 [.ref 50, .ref 53] h Q' = Q' none (tfH h 50 51 52 53 54 55) := fun Q' => c2b H
    have H1 : KC (tfH h 50 51 52 53 54 55) := H
    have F0 : Fr (fun o k => (o = 50 ∧ k ≤ 2) ∨ o = 51 ∨ o = 52 ∨ rwS o k ∨ (o = 65 ∧ 32 ≤ k ∧ k ≤ 34) ∨ o = 67 ∨ o = 91) rT h (tfH h 50 51 52 53 54 55) := by
      have e : tfH h 50 51 52 53 54 55 = pA (pA (pI (pI (pI h 50 0 (gI h 53 0)) 50 1 (gI h 53 1)) 50 2 (gI h 53 2)) 51 (pre (gI h 54) 12 (gI h 51))) 52 (pre (gI h 55) 4 (gI h 52)) := by
        unfold tfH tfF
        simp only [pI_def, pA_pA, gI_eq]
      rw [e]
      refine Fr_trans (Fr_trans (Fr_trans (Fr_trans (Fr_pI ?_) (Fr_pI ?_)) (Fr_pI ?_)) (Fr_pA (fun k => ?_))) (Fr_pA (fun k => ?_)) <;> omega
    have hwl : ∀ l, l < 4 → w l = pre (gI h 93) 4 (gI h 67) l := fun l hl => by rw [pre_in hl]; exact ((aw l hl).2.1).symm
    have w1 : ∀ l, l < 4 → bn (pre (gI h 93) 4 (gI h 67) l) 100 := fun l hl => by rw [← hwl l hl]; exact (aw l hl).2.2
    have wX : ∀ l, l < 4 → gI (tfH h 50 51 52 53 54 55) 52 l = pre (gI h 93) 4 (gI h 67) l := fun l hl => by
      have : gI (tfH h 50 51 52 53 54 55) 52 l = pre (gI h 55) 4 (gI h 52) l := rfl
      rw [this, pre_in hl, pre_in hl, (aw l hl).1, (aw l hl).2.1]
    intro Q1 hQ1
    have tX := gt_2 H1
    simp (disch := first | omega | assumption | exact gt_2 H | exact gt_50 H | (simp only [gT_pA, gT_pI, gT_pR]; first | assumption | exact gt_2 H | exact gt_50 H) | fail) only [s121_0, s121_1, s121_4, s121_7, s121_9, s121_10, s121_11, s121_14, s121_15, s121_18, s121_21, s121_22, s121_25, s121_26, s121_29, s121_32, gr_2_10 H, gr_2_9 H, gt_2 H, gt_50 H, am121, isRf_ref, true_and, and_true, aPs_s, aPs_n, b01_0, b01_1, nI_clamp, ix_nI, inb_nI, lt_nI, eq_nI, nn_nI, eq0_nI, pk_mul, nI_add, lt_T, lt_F, if_true, if_false, true_and, and_true, neg1_nI, neg1_lt, neg1_neg, lt_neg1, eqN_F, eq_self,  b1, hk, c2b', tX]
    refine t134 (d := d + 14) H1 AB0 hp r21 (P := wP P (pre (gI h 93) 4 (gI h 67))) (okW_wP W w1) (CP_wP (CPg_of (fun o k q1 q2 => F0.2.2 o k (by unfold rwS rnS; omega)) C)) wX (tlV_wP Tv) ((F0.2.2 29 2 (by unfold rwS rnS; omega)).trans h29) (fun f hf => told_34 TMh f hf) (fun X1 F1 T1 e39 => ?_)
    have F01 := Fr_trans F0 (Fr_mono F1 (fun _ _ q => Or.inr (Or.inr (Or.inr (Or.inl q)))) rn_r)
    have H2 : KC X1 := Fr_KC (Fr_rp F01) pT_C H
    have e65 : ∀ o k, 65 ≤ o → gI X1 o k = gI h o k := fun o k q => by
      rw [F1.2.2 o k (by unfold rwS rnS; omega)]
      have : gI (tfH h 50 51 52 53 54 55) o k = gI h o k := by
        unfold tfH
        rw [gI_ne (by omega), gI_ne (by omega), gI_ne (by omega)]
      exact this
    have M1 : KM X1 := Fr_KM (Fr_rp F01) pT_M HM
    have P1 : pv X1 = P := (pv_cg (fun o k q => e65 o k (by omega)) (e65 65 4 (by omega))).trans hP
    have x67 : gI X1 67 = gI h 67 := by funext k; exact e65 67 k (by omega)
    have x93 : gI X1 93 = gI h 93 := by funext k; exact e65 93 k (by omega)
    have x36 : ¬ gI X1 65 36 = 0 := by rw [e65 65 36 (by omega)]; exact hk
    have x37 : gI X1 65 37 = nI q := (e65 65 37 (by omega)).trans a5
    have x50 : gI X1 50 0 = nI q := by
      rw [F1.2.2 50 0 (by unfold rwS rnS; omega)]
      exact a4
    have F2 : Fr (fun o k => (o = 50 ∧ k ≤ 2) ∨ o = 51 ∨ o = 52 ∨ rwS o k ∨ (o = 65 ∧ 32 ≤ k ∧ k ≤ 34) ∨ o = 67 ∨ o = 91) rT X1 (baH X1) := by
      have e : baH X1 = pA (pA (pI (pI (pI X1 65 32 (gI X1 65 37)) 65 33 (gI X1 65 38)) 65 34 (gI X1 65 39)) 67 (pre (gI X1 93) 4 (gI X1 67))) 91 (pre (gI X1 92) 12 (gI X1 91)) := by
        unfold baH baF
        simp only [pI_def, pA_pA, gI_eq]
      rw [e]
      refine Fr_trans (Fr_trans (Fr_trans (Fr_trans (Fr_pI ?_) (Fr_pI ?_)) (Fr_pI ?_)) (Fr_pA (fun k => ?_))) (Fr_pA (fun k => ?_)) <;> omega
    have F := Fr_trans F01 F2
    have y67 : gI (baH X1) 67 = pre (gI h 93) 4 (gI h 67) := by
      have : gI (baH X1) 67 = pre (gI X1 93) 4 (gI X1 67) := rfl
      rw [this, x67, x93]
    have P2 : pv (baH X1) = wP P (pre (gI h 93) 4 (gI h 67)) := by
      funext o
      by_cases e : o = 67
      · subst e
        exact y67
      · unfold wP
        rw [if_neg e, ← P1]
        unfold pv
        by_cases g : 67 ≤ o ∧ o ≤ 77
        · rw [if_pos g, if_pos g]
          unfold baH
          rw [gI_ne (by omega), gI_ne (by omega), gI_ne (by omega)]
        · rw [if_neg g, if_neg g]
          by_cases g2 : o = 65
          · rw [if_pos g2, if_pos g2]
            rfl
          · rw [if_neg g2, if_neg g2]
    have r2' : R2 (baH X1) p (wP P (pre (gI h 93) 4 (gI h 67))) tl := by
      refine ⟨hp, ?_, ?_, P2, okW_wP W w1, tlV_wP Tv, ?_, ?_, fun i hi => ?_, ?_⟩
      · rw [F.2.1 2 1 (by unfold rT; omega)]; exact r21
      · rw [F.2.1 2 2 (by unfold rT; omega)]; exact r22
      · exact toH_cg (F.2.2 65 26 (by unfold rwS rnS; omega)) (fun k => F.2.2 88 k (by unfold rwS rnS; omega)) T
      · rw [F.2.2 29 2 (by unfold rwS rnS; omega)]; exact h29
      · have : gI (baH X1) 52 i = gI X1 52 i := rfl
        rw [this, F1.2.2 52 i (by unfold rwS rnS; omega)]
        exact wX i hi
      · refine TM_cg (h := X1) hp (fun o k q => ?_) rfl rfl T1
        unfold baH
        rw [gI_ne (by omega), gI_ne (by omega), gI_ne (by omega)]
    have r7' : R7 (baH X1) (wP P (pre (gI h 93) 4 (gI h 67))) := by
      refine ⟨L, hi, q, rl, fun b hb => ⟨?_, ?_⟩, ?_, ?_, ?_, ?_, ?_, ?_, a8, a9, flK_w V hwl K, dj_w V hwl J⟩
      · have : gI (baH X1) 51 b = gI X1 51 b := rfl
        rw [this, F1.2.2 51 b (by unfold rwS rnS; omega)]
        have : gI (tfH h 50 51 52 53 54 55) 51 b = pre (gI h 54) 12 (gI h 51) b := rfl
        rw [this, pre_in hb]
        exact (a1 b hb).1
      · have : gI (baH X1) 91 b = pre (gI X1 92) 12 (gI X1 91) b := rfl
        rw [this, pre_in hb, e65 92 b (by omega)]
        exact (a1 b hb).2
      · have : gI (baH X1) 50 1 = gI X1 50 1 := rfl
        rw [this, F1.2.2 50 1 (by unfold rwS rnS; omega)]
        exact a2
      · have : gI (baH X1) 65 33 = gI X1 65 38 := rfl
        rw [this, e65 65 38 (by omega)]
        exact a3
      · exact x50
      · exact x37
      · have : gI (baH X1) 50 2 = gI X1 50 2 := rfl
        rw [this, F1.2.2 50 2 (by unfold rwS rnS; omega)]
        exact a6
      · have : gI (baH X1) 65 34 = gI X1 65 39 := rfl
        rw [this, e65 65 39 (by omega)]
        exact a7
    have r8' : R8 h (wP P (pre (gI h 93) 4 (gI h 67))) := by
      obtain ⟨b1, b2, b3⟩ := r8o
      refine ⟨b1, b2, fun q => ?_⟩
      obtain ⟨L', hi', p', rl', w', c1, c2, c3, c4, c5, c6, c7, c8, c9, c10, c11, c12⟩ := b3 q
      exact ⟨L', hi', p', rl', w', c1, c2, c3, c4, c5, c6, c7, c8, c9, c10, by rw [wP_wP]; exact c11, by rw [wP_wP]; exact c12⟩
    simp (disch := first | omega | assumption | exact gt_2 H2 | exact gt_50 H2 | (simp only [gT_pA, gT_pI, gT_pR]; first | assumption | exact gt_2 H2 | exact gt_50 H2) | fail) only [s121_0, s121_1, s121_4, s121_7, s121_9, s121_10, s121_11, s121_14, s121_15, s121_18, s121_21, s121_22, s121_25, s121_26, s121_29, s121_32, gr_2_10 H2, gr_2_9 H2, gt_2 H2, gt_50 H2, am121, isRf_ref, true_and, and_true, aPs_s, aPs_n, b01_0, b01_1, nI_clamp, ix_nI, inb_nI, lt_nI, eq_nI, nn_nI, eq0_nI, pk_mul, nI_add, lt_T, lt_F, if_true, if_false, true_and, and_true, neg1_nI, neg1_lt, neg1_neg, lt_neg1, eqN_F, eq_self,  x50]
    refine hQ1 (nI q) X1 (fun Q2 hQ2 => ?_)
    rw [c211 M1, if_neg x36, x37]
    refine hQ2 _ (Rel_rn F ?_ ?_ ?_ ?_ ?_ ?_ ?_ r1 r2' ?_ r4 r5 r6 r7' (R8_fr F ?_ r8') r9 ra rb)
    · intro o k; simp only [D1, rwS, rnS]; omega
    · intro o k; simp only [D4, rwS, rnS]; omega
    · intro o k; simp only [D5, rwS, rnS]; omega
    · intro o k; simp only [D6, rwS, rnS]; omega
    · intro o k; simp only [D9, rwS, rnS]; omega
    · intro o k; simp only [DA, rwS, rnS]; omega
    · intro o k; simp only [DB, rwS, rnS]; omega
    · exact e39
    · intro o k; simp only [D8, rwS, rnS]; omega
set_option maxHeartbeats 8000000 in
theorem p_order (R : Rel h0 h) {k : Int32} : Pr d h0 h 98 166 [.ref 2, .int k] [.ref 65, .int k] := by
  have R' := R
  obtain ⟨p, P, tl, r1, r2, r3, r4, r5, r6, r7, r8, r9, ra, rb⟩ := R
  have R0 := r1
  obtain ⟨-, -, H, HM, AB0⟩ := R0
  have R0 := r2
  obtain ⟨hp, r21, r22, hP, W, Tv, T, h29, hw, TMh⟩ := R0
  have V := W.1
  have s10 := V.s.1
  have C := TMh.1.1
  have f3 := TMh.2.2.1
  have t2 := TMh.2.2.2
  have r7o := r7
  obtain ⟨L, hi, q, rl, a1, a2, a3, a4, a5, a6, a7, a8, a9, K, J⟩ := r7
  have ql : q < 2 ^ 31 := by omega
  have c129' : ∀ Q', aM (d + 19) 129 [.int k] h Q' = Q' (some (.int (zB (plc k 4).isSome))) h := fun Q' => c129
  have e6 := C.s
  rcases plc_or k 4 (by omega) with ⟨s, hs, rfl, e⟩ | e
  · rw [e] at c129'
    obtain ⟨z0, z1, zs, zz, zk⟩ := r9 s hs
    have t166' := fun (h1 : abH) (M1 : KM h1) (P1 : pv h1 = P) (e32 : gI h1 65 32 = nI q) (Q2 : Option Value → abH → Prop) => t166 (d := d + 18) (Q := Q2) M1 P1 V (k := nI s) e32 ql
    rw [e] at t166'
    by_cases h1 : gI h 94 s = -1
    · refine Pr_t (h1 := h) (v := -11) (fun Q => ?_) (fun Q2 hQ2 => t166' h HM hP a5 Q2 (by simp only [h1, if_true]; exact hQ2 h R'))
      simp (disch := first | omega | assumption | exact gtP H hp | exact gtS H hs | exact gt_2 H | exact gt_29 H | exact gt_50 H | (simp only [gT_pA, gT_pI, gT_pR]; first | assumption | exact gtP H hp | exact gtS H hs | exact gt_2 H | exact gt_29 H | exact gt_50 H) | fail) only [s98_0, s98_1, s98_4, s98_7, s98_9, s98_10, s98_11, s98_14, s98_15, s98_16, s98_17, s98_18, s98_21, s98_22, s98_25, s98_27, s98_28, s98_29, s98_32, s98_33, s98_36, s98_39, s98_42, s98_44, s98_45, s98_46, s98_49, s98_52, s98_55, s98_57, s98_58, s98_59, s98_62, s98_63, s98_66, s98_67, s98_70, s98_71, s98_72, s98_75, s98_77, s98_78, s98_79, s98_80, s98_81, s98_84, s98_85, s98_88, s98_89, s98_92, s98_93, s98_96, s98_99, aq_56 H, grS H hs, gr_2_12 H, gr_2_3 H, gr_2_9 H, gtP H hp, gtS H hs, gt_2 H, gt_29 H, gt_50 H, am98, isRf_ref, true_and, and_true, aPs_s, aPs_n, b01_0, b01_1, nI_clamp, ix_nI, inb_nI, lt_nI, eq_nI, nn_nI, eq0_nI, pk_mul, nI_add, lt_T, lt_F, if_true, if_false, true_and, and_true, neg1_nI, neg1_lt, neg1_neg, lt_neg1, eqN_F, eq_self,  c129', Option.isSome_some, Bool.not_false, Bool.not_true, Bool.true_and, Bool.false_and, Bool.and_true, Bool.and_false, Bool.or_true, Bool.or_false, Bool.true_or, Bool.false_or, Bool.true_eq_false, Bool.false_eq_true, if_true, if_false, Option.isSome_some, Option.isSome_none, Option.isNone_some, Option.isNone_none, zB_t, zB_f, nI1_0, nI0_0, z0, h1]
    · by_cases h2 : gI h 95 s = nI (nS P)
      · by_cases h3 : 0 < q
        · refine Pr_t (h1 := h) (v := -3) (fun Q => ?_) (fun Q2 hQ2 => t166' h HM hP a5 Q2 (by simp only [h1, h2, h3, if_true, if_false]; exact hQ2 h R'))
          simp (disch := first | omega | assumption | exact gtP H hp | exact gtS H hs | exact gt_2 H | exact gt_29 H | exact gt_50 H | (simp only [gT_pA, gT_pI, gT_pR]; first | assumption | exact gtP H hp | exact gtS H hs | exact gt_2 H | exact gt_29 H | exact gt_50 H) | fail) only [s98_0, s98_1, s98_4, s98_7, s98_9, s98_10, s98_11, s98_14, s98_15, s98_16, s98_17, s98_18, s98_21, s98_22, s98_25, s98_27, s98_28, s98_29, s98_32, s98_33, s98_36, s98_39, s98_42, s98_44, s98_45, s98_46, s98_49, s98_52, s98_55, s98_57, s98_58, s98_59, s98_62, s98_63, s98_66, s98_67, s98_70, s98_71, s98_72, s98_75, s98_77, s98_78, s98_79, s98_80, s98_81, s98_84, s98_85, s98_88, s98_89, s98_92, s98_93, s98_96, s98_99, aq_56 H, grS H hs, gr_2_12 H, gr_2_3 H, gr_2_9 H, gtP H hp, gtS H hs, gt_2 H, gt_29 H, gt_50 H, am98, isRf_ref, true_and, and_true, aPs_s, aPs_n, b01_0, b01_1, nI_clamp, ix_nI, inb_nI, lt_nI, eq_nI, nn_nI, eq0_nI, pk_mul, nI_add, lt_T, lt_F, if_true, if_false, true_and, and_true, neg1_nI, neg1_lt, neg1_neg, lt_neg1, eqN_F, eq_self,  c129', Option.isSome_some, Bool.not_false, Bool.not_true, Bool.true_and, Bool.false_and, Bool.and_true, Bool.and_false, Bool.or_true, Bool.or_false, Bool.true_or, Bool.false_or, Bool.true_eq_false, Bool.false_eq_true, if_true, if_false, Option.isSome_some, Option.isSome_none, Option.isNone_some, Option.isNone_none, zB_t, zB_f, nI1_0, nI0_0, z0, z1, h1, h2, r21, e6, a4, p0_nI, h3]
        · have q0 : q = 0 := by omega
          subst q0
          have SHs : SH h s (nS P) (cRow h s) := ⟨z1.trans h2, zk⟩
          have c83' : ∀ Q', aM (d + 19) 83 [.ref 29, .ref p, .ref (57 + 2 * s)] h Q' = Q' (some (.int (oI (oFl P (cRow h s) 0)))) h := fun Q' => c83 H hp V C hs SHs
          cases hf : oFl P (cRow h s) 0 with
          | some f =>
            have hf2 : f < nS P := by
              have := (fst1_lt hf).2.1
              omega
            rw [hf] at c83'
            refine Pr_t (h1 := h) (v := (-100) - nI f) (fun Q => ?_) (fun Q2 hQ2 => t166' h HM hP a5 Q2 (by simp only [h1, h2, h3, hf, if_true, if_false]; exact hQ2 h R'))
            simp (disch := first | omega | assumption | exact gtP H hp | exact gtS H hs | exact gt_2 H | exact gt_29 H | exact gt_50 H | (simp only [gT_pA, gT_pI, gT_pR]; first | assumption | exact gtP H hp | exact gtS H hs | exact gt_2 H | exact gt_29 H | exact gt_50 H) | fail) only [s98_0, s98_1, s98_4, s98_7, s98_9, s98_10, s98_11, s98_14, s98_15, s98_16, s98_17, s98_18, s98_21, s98_22, s98_25, s98_27, s98_28, s98_29, s98_32, s98_33, s98_36, s98_39, s98_42, s98_44, s98_45, s98_46, s98_49, s98_52, s98_55, s98_57, s98_58, s98_59, s98_62, s98_63, s98_66, s98_67, s98_70, s98_71, s98_72, s98_75, s98_77, s98_78, s98_79, s98_80, s98_81, s98_84, s98_85, s98_88, s98_89, s98_92, s98_93, s98_96, s98_99, aq_56 H, grS H hs, gr_2_12 H, gr_2_3 H, gr_2_9 H, gtP H hp, gtS H hs, gt_2 H, gt_29 H, gt_50 H, am98, isRf_ref, true_and, and_true, aPs_s, aPs_n, b01_0, b01_1, nI_clamp, ix_nI, inb_nI, lt_nI, eq_nI, nn_nI, eq0_nI, pk_mul, nI_add, lt_T, lt_F, if_true, if_false, true_and, and_true, neg1_nI, neg1_lt, neg1_neg, lt_neg1, eqN_F, eq_self,  c129', Option.isSome_some, Bool.not_false, Bool.not_true, Bool.true_and, Bool.false_and, Bool.and_true, Bool.and_false, Bool.or_true, Bool.or_false, Bool.true_or, Bool.false_or, Bool.true_eq_false, Bool.false_eq_true, if_true, if_false, Option.isSome_some, Option.isSome_none, Option.isNone_some, Option.isNone_none, zB_t, zB_f, nI1_0, nI0_0, z0, z1, h1, h2, r21, e6, a4, p0_nI, h3, c83', oI_s, nn_nI]
          | none =>
            obtain ⟨O, cO⟩ := oFl_V V hf
            rw [hf] at c83'
            have c84' : ∀ Q', aM (d + 19) 84 [.ref 29, .ref (57 + 2 * s)] h Q' = Q' none (tlX h (cRow h s) (nS P)) := fun Q' => c84 H hs s10 SHs
            have HX : KC (tlX h (cRow h s) (nS P)) := H
            have F0 : Fr (fun o k => (o = 29 ∧ k = 2) ∨ rwS o k ∨ (o = 65 ∧ k = 26) ∨ o = 88) rT h (tlX h (cRow h s) (nS P)) := Fr_trans (Fr_trans (Fr_pA (fun k => by unfold rwS rnS; omega)) (Fr_pI (by omega))) (Fr_pI (by unfold rwS rnS; omega))
            have x34 : ∀ k, k < nS P → gI (tlX h (cRow h s) (nS P)) 34 k = nI (ix (cRow h s k)) := fun k hk => by
              rw [← cO k hk]
              have : gI (tlX h (cRow h s) (nS P)) 34 k = pre (cRow h s) (nS P) (gI h 34) k := rfl
              rw [this, pre_in hk]
            have tX := gt_2 HX
            intro Q1 hQ1
            simp (disch := first | omega | assumption | exact gtP H hp | exact gtS H hs | exact gt_2 H | exact gt_29 H | exact gt_50 H | (simp only [gT_pA, gT_pI, gT_pR]; first | assumption | exact gtP H hp | exact gtS H hs | exact gt_2 H | exact gt_29 H | exact gt_50 H) | fail) only [s98_0, s98_1, s98_4, s98_7, s98_9, s98_10, s98_11, s98_14, s98_15, s98_16, s98_17, s98_18, s98_21, s98_22, s98_25, s98_27, s98_28, s98_29, s98_32, s98_33, s98_36, s98_39, s98_42, s98_44, s98_45, s98_46, s98_49, s98_52, s98_55, s98_57, s98_58, s98_59, s98_62, s98_63, s98_66, s98_67, s98_70, s98_71, s98_72, s98_75, s98_77, s98_78, s98_79, s98_80, s98_81, s98_84, s98_85, s98_88, s98_89, s98_92, s98_93, s98_96, s98_99, aq_56 H, grS H hs, gr_2_12 H, gr_2_3 H, gr_2_9 H, gtP H hp, gtS H hs, gt_2 H, gt_29 H, gt_50 H, am98, isRf_ref, true_and, and_true, aPs_s, aPs_n, b01_0, b01_1, nI_clamp, ix_nI, inb_nI, lt_nI, eq_nI, nn_nI, eq0_nI, pk_mul, nI_add, lt_T, lt_F, if_true, if_false, true_and, and_true, neg1_nI, neg1_lt, neg1_neg, lt_neg1, eqN_F, eq_self,  c129', Option.isSome_some, Bool.not_false, Bool.not_true, Bool.true_and, Bool.false_and, Bool.and_true, Bool.and_false, Bool.or_true, Bool.or_false, Bool.true_or, Bool.false_or, Bool.true_eq_false, Bool.false_eq_true, if_true, if_false, Option.isSome_some, Option.isSome_none, Option.isNone_some, Option.isNone_none, zB_t, zB_f, nI1_0, nI0_0, z0, z1, h1, h2, r21, e6, a4, p0_nI, h3, c83', oI_n, iflt_m1, c84', tX]
            refine t134 (d := d + 14) HX AB0 hp r21 (tl := some (fun k => ix (cRow h s k))) W (CPg_of (fun o k q1 q2 => F0.2.2 o k (by unfold rwS rnS; omega)) C) (fun i hi => (F0.2.2 52 i (by unfold rwS rnS; omega)).trans (hw i hi)) (fun f' hf' => by cases hf'; exact O) rfl (fun f' hf' => by cases hf'; exact ⟨rfl, x34⟩) (fun X1 F1 T1 e39 => ?_)
            have F01 := Fr_trans F0 (Fr_mono F1 (fun _ _ q => Or.inr (Or.inl q)) rn_r)
            have H2 : KC X1 := Fr_KC (Fr_rp F01) pT_C H
            have e65 : ∀ o k, 65 ≤ o → gI X1 o k = gI h o k := fun o k q => by
              rw [F1.2.2 o k (by unfold rwS rnS; omega)]
              unfold tlX
              rw [pI_def, gI_ne (by omega), pI_def, gI_ne (by omega), gI_ne (by omega)]
            have M1 : KM X1 := Fr_KM (Fr_rp F01) pT_M HM
            have P1 : pv X1 = P := (pv_cg (fun o k q => e65 o k (by omega)) (e65 65 4 (by omega))).trans hP
            have xc : cRow X1 s = cRow h s := by funext k; exact e65 96 _ (by omega)
            have x29 : gI X1 29 2 = nI 1 := by
              rw [F1.2.2 29 2 (by unfold rwS rnS; omega)]
              rfl
            have r21' : gR X1 2 1 = .ref p := by rw [F01.2.1 2 1 (by unfold rT; omega)]; exact r21
            have e6' : gI X1 p 6 = nI (nS P) := T1.1.1.s
            have tp := gtP H2 hp
            have F : Fr (fun o k => (o = 29 ∧ k = 2) ∨ rwS o k ∨ (o = 65 ∧ k = 26) ∨ o = 88) rT h (pI (pA X1 88 (pre (cRow h s) (nS P) (gI X1 88))) 65 26 (nI 1)) := Fr_trans F01 (Fr_trans (Fr_pA (fun k => by omega)) (Fr_pI (by omega)))
            have P2 : pv (pI (pA X1 88 (pre (cRow h s) (nS P) (gI X1 88))) 65 26 (nI 1)) = P := by
              rw [pv_pI (by omega), pv_pA (by omega)]
              exact P1
            have r2' : R2 (pI (pA X1 88 (pre (cRow h s) (nS P) (gI X1 88))) 65 26 (nI 1)) p P (some (fun k => ix (cRow h s k))) := by
              refine ⟨hp, r21', ?_, P2, W, (fun f' hf' => by cases hf'; exact O), ?_, x29, fun i hi => ?_, ?_⟩
              · rw [F.2.1 2 2 (by unfold rT; omega)]; exact r22
              · refine ⟨by rw [pI_def, gI_eq, upd_eq]; rfl, fun f' hf' k hk => ?_⟩
                cases hf'
                rw [pI_def, gI_ne (by omega), gI_eq, pre_in hk]
                exact ⟨cO k hk, (O k hk).1⟩
              · rw [F.2.2 52 i (by unfold rwS rnS; omega)]; exact hw i hi
              · exact TM_cg (h := X1) hp (fun o k q => by rw [pI_def, gI_ne (by omega), gI_ne (by omega)]) rfl rfl T1
            simp (disch := first | omega | assumption | exact gtP H2 hp | exact gtS H2 hs | exact gt_2 H2 | exact gt_29 H2 | exact gt_50 H2 | (simp only [gT_pA, gT_pI, gT_pR]; first | assumption | exact gtP H2 hp | exact gtS H2 hs | exact gt_2 H2 | exact gt_29 H2 | exact gt_50 H2) | fail) only [s98_0, s98_1, s98_4, s98_7, s98_9, s98_10, s98_11, s98_14, s98_15, s98_16, s98_17, s98_18, s98_21, s98_22, s98_25, s98_27, s98_28, s98_29, s98_32, s98_33, s98_36, s98_39, s98_42, s98_44, s98_45, s98_46, s98_49, s98_52, s98_55, s98_57, s98_58, s98_59, s98_62, s98_63, s98_66, s98_67, s98_70, s98_71, s98_72, s98_75, s98_77, s98_78, s98_79, s98_80, s98_81, s98_84, s98_85, s98_88, s98_89, s98_92, s98_93, s98_96, s98_99, aq_56 H2, grS H2 hs, gr_2_12 H2, gr_2_3 H2, gr_2_9 H2, gtP H2 hp, gtS H2 hs, gt_2 H2, gt_29 H2, gt_50 H2, am98, isRf_ref, true_and, and_true, aPs_s, aPs_n, b01_0, b01_1, nI_clamp, ix_nI, inb_nI, lt_nI, eq_nI, nn_nI, eq0_nI, pk_mul, nI_add, lt_T, lt_F, if_true, if_false, true_and, and_true, neg1_nI, neg1_lt, neg1_neg, lt_neg1, eqN_F, eq_self,  r21', tp, e6']
            refine hQ1 (nI (nS P)) X1 (fun Q2 hQ2 => t166' X1 M1 P1 ((e65 65 32 (by omega)).trans a5) Q2 ?_)
            simp only [e65 94 s (by omega), e65 95 s (by omega), h1, h2, if_true, if_false, Nat.lt_irrefl, xc, hf]
            refine hQ2 _ (Rel_rn F ?_ ?_ ?_ ?_ ?_ ?_ ?_ r1 r2' ?_ r4 r5 r6 (R7_fr F ?_ r7o) (R8_fr F ?_ r8) r9 ra rb)
            · intro o k; simp only [D1, rwS, rnS]; omega
            · intro o k; simp only [D4, rwS, rnS]; omega
            · intro o k; simp only [D5, rwS, rnS]; omega
            · intro o k; simp only [D6, rwS, rnS]; omega
            · intro o k; simp only [D9, rwS, rnS]; omega
            · intro o k; simp only [DA, rwS, rnS]; omega
            · intro o k; simp only [DB, rwS, rnS]; omega
            · rw [pI_def, gI_ne (by omega), gI_ne (by omega)]; exact e39
            · intro o k; simp only [D7, rwS, rnS]; omega
            · intro o k; simp only [D8, rwS, rnS]; omega
      · refine Pr_t (h1 := h) (v := -2) (fun Q => ?_) (fun Q2 hQ2 => t166' h HM hP a5 Q2 (by simp only [h1, h2, if_false]; exact hQ2 h R'))
        simp (disch := first | omega | assumption | exact gtP H hp | exact gtS H hs | exact gt_2 H | exact gt_29 H | exact gt_50 H | (simp only [gT_pA, gT_pI, gT_pR]; first | assumption | exact gtP H hp | exact gtS H hs | exact gt_2 H | exact gt_29 H | exact gt_50 H) | fail) only [s98_0, s98_1, s98_4, s98_7, s98_9, s98_10, s98_11, s98_14, s98_15, s98_16, s98_17, s98_18, s98_21, s98_22, s98_25, s98_27, s98_28, s98_29, s98_32, s98_33, s98_36, s98_39, s98_42, s98_44, s98_45, s98_46, s98_49, s98_52, s98_55, s98_57, s98_58, s98_59, s98_62, s98_63, s98_66, s98_67, s98_70, s98_71, s98_72, s98_75, s98_77, s98_78, s98_79, s98_80, s98_81, s98_84, s98_85, s98_88, s98_89, s98_92, s98_93, s98_96, s98_99, aq_56 H, grS H hs, gr_2_12 H, gr_2_3 H, gr_2_9 H, gtP H hp, gtS H hs, gt_2 H, gt_29 H, gt_50 H, am98, isRf_ref, true_and, and_true, aPs_s, aPs_n, b01_0, b01_1, nI_clamp, ix_nI, inb_nI, lt_nI, eq_nI, nn_nI, eq0_nI, pk_mul, nI_add, lt_T, lt_F, if_true, if_false, true_and, and_true, neg1_nI, neg1_lt, neg1_neg, lt_neg1, eqN_F, eq_self,  c129', Option.isSome_some, Bool.not_false, Bool.not_true, Bool.true_and, Bool.false_and, Bool.and_true, Bool.and_false, Bool.or_true, Bool.or_false, Bool.true_or, Bool.false_or, Bool.true_eq_false, Bool.false_eq_true, if_true, if_false, Option.isSome_some, Option.isSome_none, Option.isNone_some, Option.isNone_none, zB_t, zB_f, nI1_0, nI0_0, z0, z1, h1, h2, r21, e6]
  · rw [e] at c129'
    have hs : 0 < 4 := by omega
    refine Pr_t (h1 := h) (v := -5) (fun Q => ?_) (fun Q2 hQ2 => t166 HM hP V a5 ql (by rw [e]; exact hQ2 h R'))
    simp (disch := first | omega | assumption | exact gtP H hp | exact gtS H hs | exact gt_2 H | exact gt_29 H | exact gt_50 H | (simp only [gT_pA, gT_pI, gT_pR]; first | assumption | exact gtP H hp | exact gtS H hs | exact gt_2 H | exact gt_29 H | exact gt_50 H) | fail) only [s98_0, s98_1, s98_4, s98_7, s98_9, s98_10, s98_11, s98_14, s98_15, s98_16, s98_17, s98_18, s98_21, s98_22, s98_25, s98_27, s98_28, s98_29, s98_32, s98_33, s98_36, s98_39, s98_42, s98_44, s98_45, s98_46, s98_49, s98_52, s98_55, s98_57, s98_58, s98_59, s98_62, s98_63, s98_66, s98_67, s98_70, s98_71, s98_72, s98_75, s98_77, s98_78, s98_79, s98_80, s98_81, s98_84, s98_85, s98_88, s98_89, s98_92, s98_93, s98_96, s98_99, aq_56 H, grS H hs, gr_2_12 H, gr_2_3 H, gr_2_9 H, gtP H hp, gtS H hs, gt_2 H, gt_29 H, gt_50 H, am98, isRf_ref, true_and, and_true, aPs_s, aPs_n, b01_0, b01_1, nI_clamp, ix_nI, inb_nI, lt_nI, eq_nI, nn_nI, eq0_nI, pk_mul, nI_add, lt_T, lt_F, if_true, if_false, true_and, and_true, neg1_nI, neg1_lt, neg1_neg, lt_neg1, eqN_F, eq_self,  c129', Option.isSome_none, Bool.not_false, Bool.not_true, Bool.true_and, Bool.false_and, Bool.and_true, Bool.and_false, Bool.or_true, Bool.or_false, Bool.true_or, Bool.false_or, Bool.true_eq_false, Bool.false_eq_true, if_true, if_false, Option.isSome_some, Option.isSome_none, Option.isNone_some, Option.isNone_none, zB_t, zB_f, nI1_0, nI0_0]
end R9
