/-! THE LAW: what holds at first; the law's whole run -/
def Y0 (h : abH) : abH := mkH h 65 104 tsM iwM rwM
theorem rl_all : (List.range 12).all (fun b => decide (lkI iwM 89 b = -1) && decide (lkI iwM 91 b = -1)) = true := by decide +kernel
theorem rs_all : (List.range 4).all (fun s => decide (lkI iwC (57 + 2 * s) 0 = -1) && (decide (lkI iwC (57 + 2 * s) 1 = 0) && (decide (lkI iwM 94 s = -1) && decide (lkI iwM 95 s = 0)))) = true := by decide +kernel
theorem rk_all : (List.range 4).all (fun s => iwC.all (fun e => decide (e.1 ≠ 58 + 2 * s ∨ e.2.1 < 0))) = true := by decide +kernel
theorem rp_all : (List.range 11).all (fun i => iwM.all (fun e => decide (e.1 ≠ 67 + i ∨ e.2.1 < (if i = 0 then 4 else 0)))) = true := by decide +kernel
theorem rq_all : (List.range 4).all (fun k => decide (lkI iwM 67 k = nI 1)) = true := by decide +kernel
section HL
variable {d Ln : Nat} {xs : Nat → Int32} {h : abH} {Q : Option Value → abH → Prop}
theorem Y0_I {o k : Nat} (ho : 65 ≤ o ∧ o < 104) : gI (Y0 h) o k = lkI iwM o k := mk_gI ho
theorem Y0_i {o k : Nat} (ho : o < 65) : gI (Y0 h) o k = gI h o k := mk_gI0 ho
theorem Y0_r {o k : Nat} (ho : o < 65) : gR (Y0 h) o k = gR h o k := mk_gR0 ho
theorem pv_Y0 : pv (Y0 h) = P0 := by
  funext o k
  by_cases g : 67 ≤ o ∧ o ≤ 77
  · rw [pv_at g, Y0_I (by omega)]
    have hp := List.all_eq_true.mp rp_all (o - 67) (List.mem_range.mpr (by omega))
    rw [show 67 + (o - 67) = o by omega] at hp
    by_cases e : o = 67
    · subst e
      by_cases hk : k < 4
      · have := of_decide_eq_true (List.all_eq_true.mp rq_all k (List.mem_range.mpr hk))
        rw [this]
        exact (if_pos ⟨rfl, hk⟩ : P0 67 k = nI 1).symm
      · rw [lkI_nB (m := 4) hp (by omega)]
        exact (if_neg (fun q => hk q.2) : P0 67 k = 0).symm
    · rw [if_neg (by omega)] at hp
      rw [lkI_nB (m := 0) hp (Nat.zero_le _), P0_z e]
  · unfold pv
    rw [if_neg g, P0_z (by omega)]
    by_cases e : o = 65
    · rw [if_pos e]
      by_cases hk : k = 4
      · rw [if_pos hk, Y0_I (by decide)]
        decide +kernel
      · rw [if_neg hk]
    · rw [if_neg e]
theorem Rel_0 (F : Fr rwS rnT (bgX (X0 Ln xs)) h) (T : TM h 5 P0 (oRD P0 none)) (e39 : gI h 39 0 = nI 0) : Rel (Y0 h) (Y0 h) := by
  have FT : Fr rwS rT (bgX (X0 Ln xs)) h := Fr_mono F (fun _ _ q => q) rn_r
  have HX : KC (bgX (X0 Ln xs)) := KC_X0
  have H : KC h := Fr_KC (Fr_rp FT) pT_C HX
  have hl : h.1.length = 65 := by
    rw [F.1]
    exact mk_len (B := ab_h0 Ln xs) (n0 := 2) (iw := iwC) (rw := rwC) rfl rfl
  have b : ∀ o k, ¬ rwS o k → gI h o k = gI (bgX (X0 Ln xs)) o k := F.2.2
  have bx : ∀ o k, ¬ ((o = 29 ∧ k = 2) ∨ o = 45 ∨ (o = 50 ∧ k ≤ 1) ∨ o = 51 ∨ (o = 2 ∧ k = 11)) → gI (bgX (X0 Ln xs)) o k = gI (X0 Ln xs) o k := (Fr_bg (h := X0 Ln xs) (R := rT)).2.2
  have yC : ∀ o k, 2 ≤ o → o < 65 → ¬ rwS o k → ¬ ((o = 29 ∧ k = 2) ∨ o = 45 ∨ (o = 50 ∧ k ≤ 1) ∨ o = 51 ∨ (o = 2 ∧ k = 11)) → gI (Y0 h) o k = lkI iwC o k := fun o k h1 h2 h3 h4 => by
    rw [Y0_i h2, b o k h3, bx o k h4, X0_I ⟨h1, h2⟩]
  have yB : ∀ o k, o < 65 → ¬ rwS o k → gI (Y0 h) o k = gI (bgX (X0 Ln xs)) o k := fun o k h2 h3 => by rw [Y0_i h2, b o k h3]
  have HY : KC (Y0 h) := by
    refine ⟨fun e he => ?_, fun e he => ?_⟩
    · have h1 := List.all_eq_true.mp KC_all1 e he
      simp only [Bool.and_eq_true, decide_eq_true_iff] at h1
      rw [Y0, mk_gT0 hl h1.1]
      exact H.1 e he
    · have h1 := List.all_eq_true.mp KC_all2 e he
      simp only [Bool.and_eq_true, decide_eq_true_iff] at h1
      rw [Y0_r h1.1.2]
      exact H.2 e he
  have MY : KM (Y0 h) := by
    refine ⟨fun e he => ?_, fun e he => ?_⟩
    · have h1 := List.all_eq_true.mp KM_all1 e he
      simp only [Bool.and_eq_true, decide_eq_true_iff] at h1
      exact mk_gT hl h1.1 h1.2
    · have h1 := List.all_eq_true.mp KM_all2 e he
      simp only [Bool.and_eq_true, decide_eq_true_iff] at h1
      have e1 : gR (Y0 h) e.1 e.2.1 = lkR rwM e.1 e.2.1 := mk_gR h1.1
      rw [e1]
      exact rfB_of h1.2
  have AY : AB (Y0 h) := by
    refine AB_of ?_ (AB_X0 (Ln := Ln) (xs := xs))
    funext k
    rw [Y0_i (by decide), b 1 k (by unfold rwS rnS; omega), bx 1 k (by omega)]
  have r2 : R2 (Y0 h) 5 P0 none := by
    refine ⟨Or.inl rfl, ?_, ?_, pv_Y0, okW_P0, (fun f hf => by cases hf), ⟨?_, fun f hf => by cases hf⟩, ?_, fun l hl4 => ?_, ?_⟩
    · rw [Y0_r (by decide), F.2.1 2 1 (by unfold rnT; omega)]
      exact X0_21 (Ln := Ln) (xs := xs)
    · rw [Y0_r (by decide), F.2.1 2 2 (by unfold rnT; omega)]
      exact X0_22 (Ln := Ln) (xs := xs)
    · rw [Y0_I (by decide)]
      exact (by decide +kernel : lkI iwM 65 26 = zB false)
    · rw [yB 29 2 (by decide) (by unfold rwS rnS; omega)]
      rfl
    · rw [Y0_i (by decide), b 52 l (by unfold rwS rnS; omega), bx 52 l (by omega)]
      exact X0_52 l hl4
    · exact TM_cg (h := h) (Or.inl rfl) (fun o k q => Y0_i (by omega)) (Y0_r (by decide)) (Y0_r (by decide)) T
  have e39' : gI (Y0 h) 39 0 = nI 0 := by rw [Y0_i (by decide)]; exact e39
  have m : ∀ k v, lkI iwM 65 k = v → gI (Y0 h) 65 k = v := fun k v q => by rw [Y0_I (by decide)]; exact q
  have b45 : ∀ b, b < 12 → gI (Y0 h) 45 b = -1 := fun b hb => by
    rw [yB 45 b (by decide) (by unfold rwS rnS; omega)]
    have : gI (bgX (X0 Ln xs)) 45 b = pre (fun _ => -1) 12 (gI (X0 Ln xs) 45) b := rfl
    rw [this, pre_in hb]
  have b51 : ∀ b, b < 12 → gI (Y0 h) 51 b = -1 := fun b hb => by
    rw [yB 51 b (by decide) (by unfold rwS rnS; omega)]
    have : gI (bgX (X0 Ln xs)) 51 b = pre (fun _ => -1) 12 (gI (X0 Ln xs) 51) b := rfl
    rw [this, pre_in hb]
  have r89 : ∀ b, b < 12 → gI (Y0 h) 89 b = -1 ∧ gI (Y0 h) 91 b = -1 := fun b hb => by
    have h1 := List.all_eq_true.mp rl_all b (List.mem_range.mpr hb)
    simp only [Bool.and_eq_true, decide_eq_true_iff] at h1
    rw [Y0_I (by decide), Y0_I (by decide)]
    exact h1
  refine ⟨5, P0, none, ⟨rfl, rfl, HY, MY, AY⟩, r2, ⟨by rw [e39']; exact Or.inl rfl, fun q => (q e39').elim⟩, ⟨0, by decide, ?_, ?_, fun k hk => by omega⟩, fun b hb => ?_, ?_, ⟨fun _ => none, 0, 0, 0, fun b hb => ⟨b51 b hb, (r89 b hb).2⟩, ?_, ?_, ?_, ?_, ?_, ?_, by decide, Nat.zero_le _, ⟨fun _ _ _ => rfl, fun b hb x hx => (by cases hx), Nat.zero_le _⟩, dj_none (fun _ _ => rfl)⟩, ⟨?_, ?_, fun hn => ?_⟩, fun s hs => ?_, ?_, ⟨fun _ => 0, 0, ⟨?_, Nat.zero_le _, fun j hj => by omega⟩, ⟨?_, Nat.zero_le _, fun j hj => by omega⟩⟩⟩
  · rw [yC 42 4 (by decide) (by decide) (by unfold rwS rnS; omega) (by omega)]
    decide +kernel
  · exact m 30 _ (by decide +kernel)
  · rw [b45 b hb, (r89 b hb).1]
    exact ⟨rfl, by decide +kernel⟩
  · show gI (Y0 h) 46 0 = gI (Y0 h) 65 29
    rw [yC 46 0 (by decide) (by decide) (by unfold rwS rnS; omega) (by omega), Y0_I (by decide)]
    decide +kernel
  · rw [yB 50 1 (by decide) (by unfold rwS rnS; omega)]
    rfl
  · exact m 33 _ (by decide +kernel)
  · rw [yB 50 0 (by decide) (by unfold rwS rnS; omega)]
    rfl
  · exact m 32 _ (by decide +kernel)
  · rw [yC 50 2 (by decide) (by decide) (by unfold rwS rnS; omega) (by omega)]
    decide +kernel
  · exact m 34 _ (by decide +kernel)
  · rw [yB 2 11 (by decide) (by unfold rwS rnS; omega), m 36 (nI 0) (by decide +kernel)]
    rfl
  · rw [m 36 (nI 0) (by decide +kernel)]
    exact Or.inl rfl
  · exact (hn (m 36 0 (by decide +kernel))).elim
  · have h1 := List.all_eq_true.mp rs_all s (List.mem_range.mpr hs)
    simp only [Bool.and_eq_true, decide_eq_true_iff] at h1
    have h2 := List.all_eq_true.mp rk_all s (List.mem_range.mpr hs)
    have e94 : gI (Y0 h) 94 s = -1 := by rw [Y0_I (by decide)]; exact h1.2.2.1
    have e95 : gI (Y0 h) 95 s = 0 := by rw [Y0_I (by decide)]; exact h1.2.2.2
    rw [e94, e95, yC (57 + 2 * s) 0 (by omega) (by omega) (by unfold rwS rnS; omega) (by omega), yC (57 + 2 * s) 1 (by omega) (by omega) (by unfold rwS rnS; omega) (by omega)]
    refine ⟨h1.1, h1.2.1, Or.inl rfl, bn_nI (j := 0) (by decide) (by decide), fun k hk => ?_⟩
    rw [yC (58 + 2 * s) k (by omega) (by omega) (by unfold rwS rnS; omega) (by omega), lkI_nB (m := 0) h2 (Nat.zero_le _), Y0_I (by decide), lkI_nB (o := 96) (m := 0) (by decide +kernel) (Nat.zero_le _)]
  · show gI (Y0 h) 2 13 = gI (Y0 h) 65 2
    rw [yC 2 13 (by decide) (by decide) (by unfold rwS rnS; omega) (by omega), Y0_I (by decide)]
    decide +kernel
  · rw [yC 3 1 (by decide) (by decide) (by unfold rwS rnS; omega) (by omega)]
    decide +kernel
  · exact m 1 _ (by decide +kernel)
theorem absz_app (a b : List (Nat × Nat)) : absz (a ++ b) = absz a + absz b := by simp [absz]
theorem abszC : absz tsC.reverse ≤ 10000 := by decide +kernel
theorem abszM : absz tsM.reverse ≤ 10000 := by decide +kernel
theorem hlaw_all (hL : Ln ≤ 384) : aM 100 220 [.ref 0] (ab_h0 Ln xs) (fun v h => v = some (.int 1) ∧ h.1.length ≤ 1000 ∧ absz h.1 ≤ 100000) := by
  show aM (79 + 21) 220 [.ref 0] (ab_h0 Ln xs) (fun v h => v = some (.int 1) ∧ h.1.length ≤ 1000 ∧ absz h.1 ≤ 100000)
  rw [am220, s220_0, s220_3, s220_4]
  show aM (79 + 20) 94 [.ref 2] (nO (ab_h0 Ln xs) 13 14) _
  refine kClass (fun h F T e39 => ?_)
  have hl : h.1.length = 65 := by
    rw [F.1]
    exact mk_len (B := ab_h0 Ln xs) (n0 := 2) (iw := iwC) (rw := rwC) rfl rfl
  simp only [aPs_n, s220_7, s220_8, hl]
  rw [s220_11, s220_12, mk_1 (n0 := 65) hl]
  show aM (79 + 20) 138 [.ref 65] (mkH h 65 66 [(14, 54)] [] []) _
  rw [kM hl]
  simp only [aPs_n, s220_15, s220_16, s220_17]
  have R := Rel_0 F T e39
  have T0 : gT (Y0 h) 0 = some (100, Ln) := by
    rw [Y0, mk_gT0 hl (by decide)]
    unfold gT
    rw [F.1]
    exact (mk_gT0 (B := ab_h0 Ln xs) (n0 := 2) (n := 65) (iw := iwC) (rw := rwC) rfl (by decide)).trans rfl
  refine aW_imp ?_ (law_loop (d := 79) T0 hL 384 0 (Y0 h) (by decide) (by omega) R)
  rintro v h' ⟨rfl, e1⟩
  refine ⟨rfl, ?_, ?_⟩
  · rw [e1]
    have : (Y0 h).1.length = 104 := mk_len hl rfl
    omega
  · rw [e1]
    have e2 : (Y0 h).1 = h.1 ++ tsM.reverse := rfl
    have e3 : h.1 = [(100, Ln), (101, 6)] ++ tsC.reverse := F.1
    rw [e2, e3, absz_app, absz_app]
    have e4 : absz [(100, Ln), (101, 6)] = Ln + 6 := by simp [absz]
    have h1 := abszC
    have h2 := abszM
    omega
end HL
