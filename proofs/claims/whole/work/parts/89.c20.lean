/-! THE CLASS: Reader, its methods -/
def clG (G : Nat → Nat → Int32) (n : Nat) : Nat → Nat → Int32 := fun k => if k = 1 then pre (fun _ => nI 0) n (G 1) else if k = 4 then pre (fun _ => nI 0) n (G 4) else if k = 5 then pre (fun _ => -1) n (G 5) else if k = 6 then pre (fun _ => nI 0) n (G 6) else if k = 0 then upd (G 0) 6 (nI 0) else G k
theorem clG_0 {G : Nat → Nat → Int32} : clG G 0 = upA G 0 6 (nI 0) := by
  funext k
  unfold clG
  simp only [pre_0]
  by_cases e : k = 0
  · subst e; rw [upA_eq]; simp
  · rw [upA_ne e]
    simp only [e, if_false]
    repeat' split
    all_goals first | rfl | (subst_vars; rfl)
theorem clG_s {G : Nat → Nat → Int32} {n : Nat} : upA (upA (upA (upA (clG G n) 1 n (nI 0)) 4 n (nI 0)) 5 n (-1)) 6 n (nI 0) = clG G (n + 1) := by
  funext k
  by_cases e6 : k = 6
  · subst e6
    rw [upA_eq, upA_ne (by decide), upA_ne (by decide), upA_ne (by decide)]
    exact pre_upd (g := fun _ => nI 0)
  · rw [upA_ne e6]
    by_cases e5 : k = 5
    · subst e5
      rw [upA_eq, upA_ne (by decide), upA_ne (by decide)]
      exact pre_upd (g := fun _ => -1)
    · rw [upA_ne e5]
      by_cases e4 : k = 4
      · subst e4
        rw [upA_eq, upA_ne (by decide)]
        exact pre_upd (g := fun _ => nI 0)
      · rw [upA_ne e4]
        by_cases e1 : k = 1
        · subst e1
          rw [upA_eq]
          exact pre_upd (g := fun _ => nI 0)
        · rw [upA_ne e1]
          unfold clG
          simp only [e1, e4, e5, e6, if_false]
theorem RG_cl {G B : Nat → Nat → Int32} : RG (clG G 12) (bgA B 12) 0 0 := by
  have z : ∀ o b, o = 68 ∨ o = 69 ∨ o = 72 → b < 12 → bgA B 12 o b = nI 0 := by
    intro o b ho hb
    unfold bgA
    rw [if_pos ho, pre_in hb]
  refine ⟨?_, fun b hb => ?_, fun b hb k hk => ?_, fun s hs => by omega, fun s hs => by omega⟩
  · show upd (G 0) 6 (nI 0) 6 = nI 0
    rw [upd_eq]
  · rw [z 69 b (by simp) hb, z 72 b (by simp) hb]
    have k1 : clG G 12 1 b = nI 0 := (show pre (fun _ => nI 0) 12 (G 1) b = nI 0 from pre_in hb)
    have k4 : clG G 12 4 b = nI 0 := (show pre (fun _ => nI 0) 12 (G 4) b = nI 0 from pre_in hb)
    have k5 : clG G 12 5 b = -1 := (show pre (fun _ => (-1 : Int32)) 12 (G 5) b = -1 from pre_in (g := fun _ => (-1 : Int32)) hb)
    have k6 : clG G 12 6 b = nI 0 := (show pre (fun _ => nI 0) 12 (G 6) b = nI 0 from pre_in hb)
    exact ⟨k1, k4, k5, k6⟩
  · rw [z 69 b (by simp) hb, ix_nI (by decide)] at hk
    omega
def dcO (A : Nat → Nat → Int32) (t : Option Nat) : Bool := match t with
  | none => false
  | some b => A 68 b != 0
section C20
variable {d q : Nat} {h : abH} {Q : Option Value → abH → Prop}
set_option maxHeartbeats 4000000 in
theorem c43 (H : KC h) (hp : q = 5 ∨ q = 17) {a : Nat} {x : Int32} {G : Nat → Nat → Int32} : aM d 43 [.ref q] (rxH h q a x G) Q = Q none (rxH h q a x (clG G 12)) := by
  have HMa : ∀ G, KC (rxH h q a x G) := fun _ => H
  have loop := for_0 (F := fun n => aW d 43 7 [.ref q, .int (nI n)] [] (rxH h q a x (clG G n)) Q) (R := Q none (rxH h q a x (clG G 12))) 12 (by
    rw [s43_7]
    simp (disch := first | omega | assumption | exact gtP (HMa _) hp | (simp only [gT_pA, gT_pI, gT_pR]; first | assumption | exact gtP (HMa _) hp) | fail) only [s43_0, s43_1, s43_2, s43_5, s43_6, s43_8, s43_10, s43_13, s43_14, s43_17, s43_18, s43_19, s43_20, s43_21, s43_24, s43_25, s43_26, s43_27, s43_28, s43_31, s43_32, s43_33, s43_34, s43_35, s43_38, s43_39, s43_40, s43_41, s43_44, s43_47, ajP_1 (HMa _) hp, ajP_5 (HMa _) hp, ajP_6 (HMa _) hp, azP_4 (HMa _) hp, grP_0 (HMa _) hp, grP_3 (HMa _) hp, grP_4 (HMa _) hp, grP_5 (HMa _) hp, gtP (HMa _) hp, am43, isRf_ref, true_and, and_true, aPs_s, aPs_n, b01_0, b01_1, nI_clamp, ix_nI, inb_nI, lt_nI, eq_nI, nn_nI, eq0_nI, pk_mul, nI_add, lt_T, lt_F, if_true, if_false, true_and, and_true, neg1_nI, neg1_lt, neg1_neg, lt_neg1, eqN_F, eq_self,  Nat.lt_irrefl]) (fun n hn => by
    rw [s43_7]
    simp (disch := first | omega | assumption | exact gtP (HMa _) hp | (simp only [gT_pA, gT_pI, gT_pR]; first | assumption | exact gtP (HMa _) hp) | fail) only [s43_0, s43_1, s43_2, s43_5, s43_6, s43_8, s43_10, s43_13, s43_14, s43_17, s43_18, s43_19, s43_20, s43_21, s43_24, s43_25, s43_26, s43_27, s43_28, s43_31, s43_32, s43_33, s43_34, s43_35, s43_38, s43_39, s43_40, s43_41, s43_44, s43_47, ajP_1 (HMa _) hp, ajP_5 (HMa _) hp, ajP_6 (HMa _) hp, azP_4 (HMa _) hp, grP_0 (HMa _) hp, grP_3 (HMa _) hp, grP_4 (HMa _) hp, grP_5 (HMa _) hp, gtP (HMa _) hp, am43, isRf_ref, true_and, and_true, aPs_s, aPs_n, b01_0, b01_1, nI_clamp, ix_nI, inb_nI, lt_nI, eq_nI, nn_nI, eq0_nI, pk_mul, nI_add, lt_T, lt_F, if_true, if_false, true_and, and_true, neg1_nI, neg1_lt, neg1_neg, lt_neg1, eqN_F, eq_self,  hn, rx_w, rx_w0, clG_s])
  have ew : pI (rxH h q a x G) q 6 (nI 0) = rxH h q a x (clG G 0) := by rw [rx_w0, clG_0]
  simp (disch := first | omega | assumption | exact gtP (HMa _) hp | (simp only [gT_pA, gT_pI, gT_pR]; first | assumption | exact gtP (HMa _) hp) | fail) only [s43_0, s43_1, s43_2, s43_5, s43_6, s43_8, s43_10, s43_13, s43_14, s43_17, s43_18, s43_19, s43_20, s43_21, s43_24, s43_25, s43_26, s43_27, s43_28, s43_31, s43_32, s43_33, s43_34, s43_35, s43_38, s43_39, s43_40, s43_41, s43_44, s43_47, ajP_1 (HMa _) hp, ajP_5 (HMa _) hp, ajP_6 (HMa _) hp, azP_4 (HMa _) hp, grP_0 (HMa _) hp, grP_3 (HMa _) hp, grP_4 (HMa _) hp, grP_5 (HMa _) hp, gtP (HMa _) hp, am43, isRf_ref, true_and, and_true, aPs_s, aPs_n, b01_0, b01_1, nI_clamp, ix_nI, inb_nI, lt_nI, eq_nI, nn_nI, eq0_nI, pk_mul, nI_add, lt_T, lt_F, if_true, if_false, true_and, and_true, neg1_nI, neg1_lt, neg1_neg, lt_neg1, eqN_F, eq_self,  ew]
  exact loop
set_option maxHeartbeats 4000000 in
theorem c44r (H : KC h) (hp : q = 5 ∨ q = 17) {c : Nat → Nat} {T a : Nat} {G A : Nat → Nat → Int32} (W : okW A) (e1 : ∀ b, b < 12 → G 1 b = A 69 b) {t : Option Nat} (ht : ∀ b, t = some b → b < 12) : aM d 44 [.ref q, .int (oI t)] (rx h q c T a G) Q = Q (some (.int (zB (dcO A t)))) (rx h q c T a G) := by
  have HMa : ∀ G, KC (rx h q c T a G) := fun _ => H
  unfold dcO
  cases t with
  | none => simp (disch := first | omega | assumption | exact gtP (HMa _) hp | (simp only [gT_pA, gT_pI, gT_pR]; first | assumption | exact gtP (HMa _) hp) | fail) only [s44_0, s44_1, s44_4, s44_5, s44_7, s44_10, s44_11, s44_14, s44_15, s44_16, s44_19, s44_20, s44_23, s44_24, aiP_1 (HMa _) hp, grP_0 (HMa _) hp, gtP (HMa _) hp, am44, isRf_ref, true_and, and_true, aPs_s, aPs_n, b01_0, b01_1, nI_clamp, ix_nI, inb_nI, lt_nI, eq_nI, nn_nI, eq0_nI, pk_mul, nI_add, lt_T, lt_F, if_true, if_false, true_and, and_true, neg1_nI, neg1_lt, neg1_neg, lt_neg1, eqN_F, eq_self,  oI_n, iflt_m1, zB_f]
  | some b =>
    have hb := ht b rfl
    have el := e1 b hb
    obtain ⟨t, ht, et⟩ := bn_of (W.1.2.1 b hb).1
    have hh := has_bf W hb
    rw [et, ix_nI (by omega)] at hh
    rw [et] at el
    by_cases h1 : 0 < t
    · have : (A 68 b != 0) = true := by simp [hh.mp h1]
      simp (disch := first | omega | assumption | exact gtP (HMa _) hp | (simp only [gT_pA, gT_pI, gT_pR]; first | assumption | exact gtP (HMa _) hp) | fail) only [s44_0, s44_1, s44_4, s44_5, s44_7, s44_10, s44_11, s44_14, s44_15, s44_16, s44_19, s44_20, s44_23, s44_24, aiP_1 (HMa _) hp, grP_0 (HMa _) hp, gtP (HMa _) hp, am44, isRf_ref, true_and, and_true, aPs_s, aPs_n, b01_0, b01_1, nI_clamp, ix_nI, inb_nI, lt_nI, eq_nI, nn_nI, eq0_nI, pk_mul, nI_add, lt_T, lt_F, if_true, if_false, true_and, and_true, neg1_nI, neg1_lt, neg1_neg, lt_neg1, eqN_F, eq_self,  oI_s, rx_ra, hb, el, p0_nI, h1, this, zB_t]
    · have h0 : A 68 b = 0 := by
        apply Classical.byContradiction
        intro q
        exact h1 (hh.mpr q)
      have : (A 68 b != 0) = false := by simp [h0]
      simp (disch := first | omega | assumption | exact gtP (HMa _) hp | (simp only [gT_pA, gT_pI, gT_pR]; first | assumption | exact gtP (HMa _) hp) | fail) only [s44_0, s44_1, s44_4, s44_5, s44_7, s44_10, s44_11, s44_14, s44_15, s44_16, s44_19, s44_20, s44_23, s44_24, aiP_1 (HMa _) hp, grP_0 (HMa _) hp, gtP (HMa _) hp, am44, isRf_ref, true_and, and_true, aPs_s, aPs_n, b01_0, b01_1, nI_clamp, ix_nI, inb_nI, lt_nI, eq_nI, nn_nI, eq0_nI, pk_mul, nI_add, lt_T, lt_F, if_true, if_false, true_and, and_true, neg1_nI, neg1_lt, neg1_neg, lt_neg1, eqN_F, eq_self,  oI_s, rx_ra, hb, el, p0_nI, h1, this, zB_f]
theorem c50r (H : KC h) (hp : q = 5 ∨ q = 17) {c : Nat → Nat} {T a : Nat} {G : Nat → Nat → Int32} {R b s : Nat} (hR : R < 2 ^ 31) (hb : b < 12) (hs : s < 31) (hm : G 6 b = nI R) : aM d 50 [.ref q, .int (nI b), .int (nI s)] (rx h q c T a G) Q = Q (some (.int (zB (tb R s)))) (rx h q c T a G) := c50 (show KC (rx h q c T a G) from H) hp hR hb hs (by rw [rx_ra (by omega)]; exact hm)
set_option maxHeartbeats 4000000 in
theorem c61 (H : KC h) (hp : q = 5 ∨ q = 17) (hi : gR h 3 4 = .ref q) {c : Nat → Nat} {T a b n : Nat} (C : tpC h c T) (ha : a ≤ T) {G : Nat → Nat → Int32} (hb : b < 12) (hn : n < 4) (e1 : G 1 b = nI n) : aM (d + 2) 61 [.ref 3, .int (nI b)] (rx h q c T a G) Q = (match (nm2 c T a).1 with
    | none => Q (some (.int (nI 0))) (rx h q c T (nm2 c T a).2 G)
    | some v => Q (some (.int (nI 1))) (rx h q c T (ltA c T (nm2 c T a).2) (upA (upA (upA G 2 (4 * b + n) (nI v)) 3 (4 * b + n) (oI (ltO c T (nm2 c T a).2))) 1 b (nI (n + 1))))) := by
  have HMa : ∀ a G, KC (rx h q c T a G) := fun _ _ => H
  have r34 : ∀ a G, gR (rx h q c T a G) 3 4 = .ref q := fun _ _ => hi
  have c66' : ∀ Q', aM (d + 1) 66 [.ref 3] (rx h q c T a G) Q' = Q' (some (.int (oI (nm2 c T a).1))) (rx h q c T (nm2 c T a).2 G) := fun Q' => c66 H hp C
  cases h1 : (nm2 c T a).1 with
  | none => simp (disch := first | omega | assumption | exact gt_3 (HMa _ _) | (simp only [gT_pA, gT_pI, gT_pR]; first | assumption | exact gt_3 (HMa _ _)) | fail) only [s61_0, s61_1, s61_4, s61_5, s61_6, s61_9, s61_10, s61_11, s61_12, s61_15, s61_17, s61_18, s61_19, s61_20, s61_23, s61_24, s61_25, s61_28, s61_29, s61_30, s61_33, s61_34, s61_35, s61_38, s61_41, s61_42, s61_43, s61_44, s61_47, s61_48, s61_49, s61_50, s61_53, s61_54, gt_3 (HMa _ _), am61, isRf_ref, true_and, and_true, aPs_s, aPs_n, b01_0, b01_1, nI_clamp, ix_nI, inb_nI, lt_nI, eq_nI, nn_nI, eq0_nI, pk_mul, nI_add, lt_T, lt_F, if_true, if_false, true_and, and_true, neg1_nI, neg1_lt, neg1_neg, lt_neg1, eqN_F, eq_self,  c66', h1, oI_n, iflt_m1]
  | some v =>
    have hv : v < 100 := (nm2_ok (c := c) ha).2.2 v h1
    have h11 := h1
    generalize (nm2 c T a).2 = a1 at *
    have e2 := rx_hr (h := h) (c := c) (T := T) (a := a1) (G := G) hp
    have e3 := rx_at (h := h) (c := c) (T := T) (a := a1) (G := G) hp
    have c46' : ∀ a x Q', aM (d + 1) 46 [.ref q, .int (nI b), .int (nI v), .int x] (rx h q c T a G) Q' = Q' none (rx h q c T a (upA (upA (upA G 2 (4 * b + n) (nI v)) 3 (4 * b + n) x) 1 b (nI (n + 1)))) := fun a x Q' => c46 H hp hb hn e1
    rcases Bool.eq_false_or_eq_true (inR (hr c T a1) 65 68) with g | g
    · obtain ⟨q1, q2, q3, q4⟩ := inR_of g
      have c70' : ∀ Q', aM (d + 1) 70 [.ref 3, .int (nI (a1 + 1))] (rx h q c T a1 G) Q' = Q' none (rx h q c T (a1 + 1) G) := fun Q' => c70 H hp C q1
      have e5 : nI (c a1) - nI 65 = nI (c a1 - 65) := pk_sub q2
      have l1 : ltA c T a1 = a1 + 1 := by unfold ltA; rw [if_pos g]
      have l2 : ltO c T a1 = some (c a1 - 65) := by unfold ltO; rw [if_pos g]
      have h4 : c a1 - 65 < 4 := by omega
      rw [q4] at e2
      simp (disch := first | omega | assumption | exact gtP (HMa _ _) hp | exact gt_3 (HMa _ _) | (simp only [gT_pA, gT_pI, gT_pR]; first | assumption | exact gtP (HMa _ _) hp | exact gt_3 (HMa _ _)) | fail) only [s61_0, s61_1, s61_4, s61_5, s61_6, s61_9, s61_10, s61_11, s61_12, s61_15, s61_17, s61_18, s61_19, s61_20, s61_23, s61_24, s61_25, s61_28, s61_29, s61_30, s61_33, s61_34, s61_35, s61_38, s61_41, s61_42, s61_43, s61_44, s61_47, s61_48, s61_49, s61_50, s61_53, s61_54, gtP (HMa _ _) hp, gt_3 (HMa _ _), am61, isRf_ref, true_and, and_true, aPs_s, aPs_n, b01_0, b01_1, nI_clamp, ix_nI, inb_nI, lt_nI, eq_nI, nn_nI, eq0_nI, pk_mul, nI_add, lt_T, lt_F, if_true, if_false, true_and, and_true, neg1_nI, neg1_lt, neg1_neg, lt_neg1, eqN_F, eq_self,  r34, c66', h1, oI_s, nn_nI, e2, e5, h4, e3, c70', c46', l1, l2]
    · have l1 : ltA c T a1 = a1 := by unfold ltA; rw [if_neg (by rw [g]; decide)]
      have l2 : ltO c T a1 = none := by unfold ltO; rw [if_neg (by rw [g]; decide)]
      cases hq : hr c T a1 with
      | none =>
        have e5 : (-1 : Int32) - nI 65 < 0 := by decide
        rw [hq] at e2
        simp (disch := first | omega | assumption | exact gtP (HMa _ _) hp | exact gt_3 (HMa _ _) | (simp only [gT_pA, gT_pI, gT_pR]; first | assumption | exact gtP (HMa _ _) hp | exact gt_3 (HMa _ _)) | fail) only [s61_0, s61_1, s61_4, s61_5, s61_6, s61_9, s61_10, s61_11, s61_12, s61_15, s61_17, s61_18, s61_19, s61_20, s61_23, s61_24, s61_25, s61_28, s61_29, s61_30, s61_33, s61_34, s61_35, s61_38, s61_41, s61_42, s61_43, s61_44, s61_47, s61_48, s61_49, s61_50, s61_53, s61_54, gtP (HMa _ _) hp, gt_3 (HMa _ _), am61, isRf_ref, true_and, and_true, aPs_s, aPs_n, b01_0, b01_1, nI_clamp, ix_nI, inb_nI, lt_nI, eq_nI, nn_nI, eq0_nI, pk_mul, nI_add, lt_T, lt_F, if_true, if_false, true_and, and_true, neg1_nI, neg1_lt, neg1_neg, lt_neg1, eqN_F, eq_self,  r34, c66', h1, oI_s, oI_n, nn_nI, e2, e5, c46', l1, l2]
      | some x =>
        have hx := hrC_lt C x hq
        rw [hq] at e2 g
        by_cases h2 : x < 65
        · have e5 : nI x - nI 65 < 0 := by
            have e0 : (0 : Int32).toInt = 0 := by decide
            rw [Int32.lt_iff_toInt_lt, sub_nI (by omega) (by omega), e0]
            omega
          simp (disch := first | omega | assumption | exact gtP (HMa _ _) hp | exact gt_3 (HMa _ _) | (simp only [gT_pA, gT_pI, gT_pR]; first | assumption | exact gtP (HMa _ _) hp | exact gt_3 (HMa _ _)) | fail) only [s61_0, s61_1, s61_4, s61_5, s61_6, s61_9, s61_10, s61_11, s61_12, s61_15, s61_17, s61_18, s61_19, s61_20, s61_23, s61_24, s61_25, s61_28, s61_29, s61_30, s61_33, s61_34, s61_35, s61_38, s61_41, s61_42, s61_43, s61_44, s61_47, s61_48, s61_49, s61_50, s61_53, s61_54, gtP (HMa _ _) hp, gt_3 (HMa _ _), am61, isRf_ref, true_and, and_true, aPs_s, aPs_n, b01_0, b01_1, nI_clamp, ix_nI, inb_nI, lt_nI, eq_nI, nn_nI, eq0_nI, pk_mul, nI_add, lt_T, lt_F, if_true, if_false, true_and, and_true, neg1_nI, neg1_lt, neg1_neg, lt_neg1, eqN_F, eq_self,  r34, c66', h1, oI_s, oI_n, nn_nI, e2, e5, c46', l1, l2]
        · have e5 : nI x - nI 65 = nI (x - 65) := pk_sub (by omega)
          have h4 : ¬ x - 65 < 4 := by
            intro q
            rw [in_some.mpr (by omega)] at g
            cases g
          simp (disch := first | omega | assumption | exact gtP (HMa _ _) hp | exact gt_3 (HMa _ _) | (simp only [gT_pA, gT_pI, gT_pR]; first | assumption | exact gtP (HMa _ _) hp | exact gt_3 (HMa _ _)) | fail) only [s61_0, s61_1, s61_4, s61_5, s61_6, s61_9, s61_10, s61_11, s61_12, s61_15, s61_17, s61_18, s61_19, s61_20, s61_23, s61_24, s61_25, s61_28, s61_29, s61_30, s61_33, s61_34, s61_35, s61_38, s61_41, s61_42, s61_43, s61_44, s61_47, s61_48, s61_49, s61_50, s61_53, s61_54, gtP (HMa _ _) hp, gt_3 (HMa _ _), am61, isRf_ref, true_and, and_true, aPs_s, aPs_n, b01_0, b01_1, nI_clamp, ix_nI, inb_nI, lt_nI, eq_nI, nn_nI, eq0_nI, pk_mul, nI_add, lt_T, lt_F, if_true, if_false, true_and, and_true, neg1_nI, neg1_lt, neg1_neg, lt_neg1, eqN_F, eq_self,  r34, c66', h1, oI_s, oI_n, nn_nI, e2, e5, h4, c46', l1, l2]
/-- the ; behind a SIZE -/
theorem fnE_t {c : Nat → Nat} {T a : Nat} {A : Nat → Nat → Int32} : fnE c T (true, a, A) = if (hr c T a == some 59) = true then (true, a + 1, A) else (false, a, A) := by
  unfold fnE
  simp only [Bool.true_and]
theorem fnE_f {c : Nat → Nat} {T a : Nat} {A : Nat → Nat → Int32} : fnE c T (false, a, A) = (false, a, A) := by
  unfold fnE
  simp only [Bool.false_and, Bool.false_eq_true, if_false]
set_option maxHeartbeats 8000000 in
theorem c60_13 (H : KC h) (hp : q = 5 ∨ q = 17) (hi : gR h 3 4 = .ref q) {c : Nat → Nat} {T b : Nat} (C : tpC h c T) (hb : b < 12) : ∀ {m n a : Nat} {A G : Nat → Nat → Int32}, n + m = 4 → a ≤ T → okW A → A 68 b = 0 → okM A b n → RG G (upA A 69 b (nI n)) (nS A) (nS A) → ∃ G', ((fnE c T (rsN c T b m n a A)).1 = true → okW (fnE c T (rsN c T b m n a A)).2.2 ∧ nS (fnE c T (rsN c T b m n a A)).2.2 = nS A ∧ RG G' (fnE c T (rsN c T b m n a A)).2.2 (nS A) (nS A)) ∧ ∀ Q, aW (d + 3) 60 13 [.ref 3, .int (nI b), .int (nI n)] [] (rx h q c T a G) Q = Q (some (.int (zB (fnE c T (rsN c T b m n a A)).1))) (rx h q c T (fnE c T (rsN c T b m n a A)).2.1 G') := by
  have HMa : ∀ a G, KC (rx h q c T a G) := fun _ _ => H
  intro m
  induction m with
  | zero =>
    intro n a A G hn ha W h68 M R
    have hn : n = 4 := by omega
    subst hn
    refine ⟨G, fun q => ?_, fun Q => ?_⟩
    · rw [rsN, fnE_f] at q; cases q
    · rw [rsN, fnE_f, s60_13]
      simp (disch := first | omega | assumption | exact gt_3 (HMa _ _) | (simp only [gT_pA, gT_pI, gT_pR]; first | assumption | exact gt_3 (HMa _ _)) | fail) only [s60_0, s60_1, s60_3, s60_6, s60_9, s60_10, s60_11, s60_12, s60_14, s60_15, s60_18, s60_19, s60_20, s60_23, s60_26, s60_27, s60_28, s60_29, s60_31, s60_34, s60_37, s60_38, s60_39, s60_40, s60_42, s60_45, s60_48, s60_49, s60_50, s60_53, s60_56, s60_57, gt_3 (HMa _ _), am60, isRf_ref, true_and, and_true, aPs_s, aPs_n, b01_0, b01_1, nI_clamp, ix_nI, inb_nI, lt_nI, eq_nI, nn_nI, eq0_nI, pk_mul, nI_add, lt_T, lt_F, if_true, if_false, true_and, and_true, neg1_nI, neg1_lt, neg1_neg, lt_neg1, eqN_F, eq_self,  Nat.lt_irrefl, zB_f]
  | succ m ih =>
    intro n a A G hn ha W h68 M R
    have n4 : n < 4 := by omega
    have e1 : G 1 b = nI n := by rw [(R.2.1 b hb).1, upA_at]
    have c61' : ∀ Q', aM (d + 2) 61 [.ref 3, .int (nI b)] (rx h q c T a G) Q' = (match (nm2 c T a).1 with
      | none => Q' (some (.int (nI 0))) (rx h q c T (nm2 c T a).2 G)
      | some v => Q' (some (.int (nI 1))) (rx h q c T (ltA c T (nm2 c T a).2) (upA (upA (upA G 2 (4 * b + n) (nI v)) 3 (4 * b + n) (oI (ltO c T (nm2 c T a).2))) 1 b (nI (n + 1))))) := fun Q' => c61 H hp hi C ha hb n4 e1
    obtain ⟨o1, o2, o3⟩ := nm2_ok (c := c) ha
    rw [rsN]
    cases h1 : (nm2 c T a).1 with
    | none =>
      simp only [h1] at c61'
      refine ⟨G, fun q => ?_, fun Q => ?_⟩
      · simp only [fnE_f] at q; cases q
      · simp only [fnE_f]
        rw [s60_13]
        simp (disch := first | omega | assumption | exact gt_3 (HMa _ _) | (simp only [gT_pA, gT_pI, gT_pR]; first | assumption | exact gt_3 (HMa _ _)) | fail) only [s60_0, s60_1, s60_3, s60_6, s60_9, s60_10, s60_11, s60_12, s60_14, s60_15, s60_18, s60_19, s60_20, s60_23, s60_26, s60_27, s60_28, s60_29, s60_31, s60_34, s60_37, s60_38, s60_39, s60_40, s60_42, s60_45, s60_48, s60_49, s60_50, s60_53, s60_56, s60_57, gt_3 (HMa _ _), am60, isRf_ref, true_and, and_true, aPs_s, aPs_n, b01_0, b01_1, nI_clamp, ix_nI, inb_nI, lt_nI, eq_nI, nn_nI, eq0_nI, pk_mul, nI_add, lt_T, lt_F, if_true, if_false, true_and, and_true, neg1_nI, neg1_lt, neg1_neg, lt_neg1, eqN_F, eq_self,  n4, c61', zB_f]
    | some v =>
      have hv := o3 v h1
      dsimp only
      simp only [h1] at c61'
      generalize (nm2 c T a).2 = a1 at *
      obtain ⟨l1, l2⟩ := ltA_ok (c := c) o1
      have l3 := ltO_ok (c := c) (T := T) (a := a1)
      generalize ltA c T a1 = a2 at *
      generalize ltO c T a1 = lo at *
      have R2 := RG_term (v := nI v) (l := oI lo) hb n4 W.t4 W.r4 R
      have W2 : okW (upA (upA A 70 (4 * b + n) (nI v)) 71 (4 * b + n) (oI lo)) := by
        refine okW_cg W ⟨fun c hc => ?_, fun s hs => ?_⟩ ?_ (fun j hj => ?_)
        · simp (disch := omega) only [upA_no]
          refine ⟨trivial, trivial, trivial, fun k hk => ?_⟩
          have h4 := W.t4 c hc
          by_cases e : c = b
          · subst e
            rw [((W.2.1 c hc).1 h68).1, ix_nI (by decide)] at hk
            omega
          · simp (disch := omega) only [upA_no]
            exact ⟨trivial, trivial⟩
        · simp (disch := omega) only [upA_no]
          exact ⟨trivial, trivial, trivial, trivial, fun _ _ => trivial⟩
        · simp (disch := omega) only [upA_no]
        · simp (disch := omega) only [upA_no]
          exact W.1.2.2.2 j hj
      have M2 : okM (upA (upA A 70 (4 * b + n) (nI v)) 71 (4 * b + n) (oI lo)) b (n + 1) := by
        intro k hk
        by_cases e : k = n
        · subst e
          simp (disch := omega) only [upA_no, upA_at]
          refine ⟨?_, bn_nI hv (by decide)⟩
          cases lo with
          | none => exact Or.inl rfl
          | some j => exact Or.inr (bn_nI (l3 j rfl) (by decide))
        · simp (disch := omega) only [upA_no]
          exact M k (by omega)
      have h682 : upA (upA A 70 (4 * b + n) (nI v)) 71 (4 * b + n) (oI lo) 68 b = 0 := by
        simp (disch := omega) only [upA_no]; exact h68
      have h722 : upA (upA A 70 (4 * b + n) (nI v)) 71 (4 * b + n) (oI lo) 72 b = nI 0 := by
        simp (disch := omega) only [upA_no]; exact ((W.2.1 b hb).1 h68).2
      have hS2 : nS (upA (upA A 70 (4 * b + n) (nI v)) 71 (4 * b + n) (oI lo)) = nS A := by rw [nS_up (by decide), nS_up (by decide)]
      rw [← hS2] at R2
      generalize upA (upA A 70 (4 * b + n) (nI v)) 71 (4 * b + n) (oI lo) = A2 at *
      generalize upA (upA (upA G 2 (4 * b + n) (nI v)) 3 (4 * b + n) (oI lo)) 1 b (nI (n + 1)) = G2 at *
      rw [← hS2]
      have c67a : ∀ a k Q', k < 2 ^ 31 → aM (d + 2) 67 [.ref 3, .int (nI k)] (rx h q c T a G2) Q' = Q' (some (.int (zB (hr c T a == some k)))) (rx h q c T (if (hr c T a == some k) = true then a + 1 else a) G2) := fun a k Q' hk => c67 H hp C hk
      have c67x : ∀ Q', aM (d + 2) 67 [.ref 3, .int (nI 59)] (rx h q c T a2 G2) Q' = Q' (some (.int (zB (hr c T a2 == some 59)))) (rx h q c T (if (hr c T a2 == some 59) = true then a2 + 1 else a2) G2) := fun Q' => c67a a2 59 Q' (by decide)
      have c67y : ∀ Q', aM (d + 2) 67 [.ref 3, .int (nI 43)] (rx h q c T a2 G2) Q' = Q' (some (.int (zB (hr c T a2 == some 43)))) (rx h q c T (if (hr c T a2 == some 43) = true then a2 + 1 else a2) G2) := fun Q' => c67a a2 43 Q' (by decide)
      rcases Bool.eq_false_or_eq_true (hr c T a2 == some 59) with g | g
      · have g3 : (hr c T a2 == some 43) = false := by
          rw [eq_of_beq g]; rfl
        simp only [g3, Bool.false_eq_true, if_false, fnE_t, g, if_true]
        refine ⟨G2, fun _ => ⟨okW_sz W2 (by omega) (by omega) M2, ?_, RG_sz h722 R2⟩, fun Q => ?_⟩
        · rw [nS_up (by decide), nS_up (by decide), nS_up (by decide)]
        · simp only [g, if_true] at c67x
          rw [s60_13]
          simp (disch := first | omega | assumption | exact gt_3 (HMa _ _) | (simp only [gT_pA, gT_pI, gT_pR]; first | assumption | exact gt_3 (HMa _ _)) | fail) only [s60_0, s60_1, s60_3, s60_6, s60_9, s60_10, s60_11, s60_12, s60_14, s60_15, s60_18, s60_19, s60_20, s60_23, s60_26, s60_27, s60_28, s60_29, s60_31, s60_34, s60_37, s60_38, s60_39, s60_40, s60_42, s60_45, s60_48, s60_49, s60_50, s60_53, s60_56, s60_57, gt_3 (HMa _ _), am60, isRf_ref, true_and, and_true, aPs_s, aPs_n, b01_0, b01_1, nI_clamp, ix_nI, inb_nI, lt_nI, eq_nI, nn_nI, eq0_nI, pk_mul, nI_add, lt_T, lt_F, if_true, if_false, true_and, and_true, neg1_nI, neg1_lt, neg1_neg, lt_neg1, eqN_F, eq_self,  n4, c61', c67x, nI1_0, zB_t]
      · rcases Bool.eq_false_or_eq_true (hr c T a2 == some 43) with g3 | g3
        · have ht := (hr_some (eq_of_beq g3)).1
          simp only [g3, if_true]
          obtain ⟨G', k1, k2⟩ := ih (n := n + 1) (a := a2 + 1) (A := A2) (G := G2) (by omega) ht W2 h682 M2 R2
          refine ⟨G', k1, fun Q => ?_⟩
          simp only [g, g3, if_true, if_false, Bool.false_eq_true] at c67x c67y
          rw [s60_13]
          simp (disch := first | omega | assumption | exact gt_3 (HMa _ _) | (simp only [gT_pA, gT_pI, gT_pR]; first | assumption | exact gt_3 (HMa _ _)) | fail) only [s60_0, s60_1, s60_3, s60_6, s60_9, s60_10, s60_11, s60_12, s60_14, s60_15, s60_18, s60_19, s60_20, s60_23, s60_26, s60_27, s60_28, s60_29, s60_31, s60_34, s60_37, s60_38, s60_39, s60_40, s60_42, s60_45, s60_48, s60_49, s60_50, s60_53, s60_56, s60_57, gt_3 (HMa _ _), am60, isRf_ref, true_and, and_true, aPs_s, aPs_n, b01_0, b01_1, nI_clamp, ix_nI, inb_nI, lt_nI, eq_nI, nn_nI, eq0_nI, pk_mul, nI_add, lt_T, lt_F, if_true, if_false, true_and, and_true, neg1_nI, neg1_lt, neg1_neg, lt_neg1, eqN_F, eq_self,  n4, c61', c67x, c67y, nI1_0, nI0_0, zB_t, zB_f]
          exact k2 Q
        · simp only [g3, Bool.false_eq_true, if_false, fnE_t, g]
          refine ⟨G2, fun q => False.elim q, fun Q => ?_⟩
          simp only [g, g3, if_false, Bool.false_eq_true] at c67x c67y
          rw [s60_13]
          simp (disch := first | omega | assumption | exact gt_3 (HMa _ _) | (simp only [gT_pA, gT_pI, gT_pR]; first | assumption | exact gt_3 (HMa _ _)) | fail) only [s60_0, s60_1, s60_3, s60_6, s60_9, s60_10, s60_11, s60_12, s60_14, s60_15, s60_18, s60_19, s60_20, s60_23, s60_26, s60_27, s60_28, s60_29, s60_31, s60_34, s60_37, s60_38, s60_39, s60_40, s60_42, s60_45, s60_48, s60_49, s60_50, s60_53, s60_56, s60_57, gt_3 (HMa _ _), am60, isRf_ref, true_and, and_true, aPs_s, aPs_n, b01_0, b01_1, nI_clamp, ix_nI, inb_nI, lt_nI, eq_nI, nn_nI, eq0_nI, pk_mul, nI_add, lt_T, lt_F, if_true, if_false, true_and, and_true, neg1_nI, neg1_lt, neg1_neg, lt_neg1, eqN_F, eq_self,  n4, c61', c67x, c67y, nI1_0, nI0_0, zB_t, zB_f]
theorem wtA_f {c : Nat → Nat} {T a b : Nat} {A : Nat → Nat → Int32} : fnE c T (wtA c T a A b) = if (hr c T a == some 33) = true then (if (hr c T (a + 1) == some 59) = true then (true, a + 2, upA A 72 b (nI 1)) else (false, a + 1, upA A 72 b (nI 1))) else (false, a, upA A 72 b (nI 0)) := by
  unfold wtA
  cases g : (hr c T a == some 33) with
  | true =>
    simp only [if_true]
    rw [fnE_t]
    rfl
  | false =>
    simp only [if_false, Bool.false_eq_true]
    rw [fnE_f]
    rfl
set_option maxHeartbeats 8000000 in
theorem c59 (H : KC h) (hp : q = 5 ∨ q = 17) (hi : gR h 3 4 = .ref q) {c : Nat → Nat} {T a b : Nat} (C : tpC h c T) (hb : b < 12) {A G : Nat → Nat → Int32} : aM (d + 2) 59 [.ref 3, .int (nI b)] (rx h q c T a G) Q = Q (some (.int (zB (fnE c T (wtA c T a A b)).1))) (rx h q c T (fnE c T (wtA c T a A b)).2.1 (upA G 4 b (nI 1))) := by
  have HMa : ∀ a G, KC (rx h q c T a G) := fun _ _ => H
  have r34 : ∀ a G, gR (rx h q c T a G) 3 4 = .ref q := fun _ _ => hi
  have c67' : ∀ a G Q', aM (d + 1) 67 [.ref 3, .int (nI 59)] (rx h q c T a G) Q' = Q' (some (.int (zB (hr c T a == some 59)))) (rx h q c T (if (hr c T a == some 59) = true then a + 1 else a) G) := fun a G Q' => c67 H hp C (by decide)
  have c67x : ∀ a G Q', aM (d + 1) 67 [.ref 3, .int (nI 33)] (rx h q c T a G) Q' = Q' (some (.int (zB (hr c T a == some 33)))) (rx h q c T (if (hr c T a == some 33) = true then a + 1 else a) G) := fun a G Q' => c67 H hp C (by decide)
  rw [wtA_f]
  rcases Bool.eq_false_or_eq_true (hr c T a == some 33) with g | g
  · rcases Bool.eq_false_or_eq_true (hr c T (a + 1) == some 59) with g2 | g2
    · simp (disch := first | omega | assumption | exact gtP (HMa _ _) hp | exact gt_3 (HMa _ _) | (simp only [gT_pA, gT_pI, gT_pR]; first | assumption | exact gtP (HMa _ _) hp | exact gt_3 (HMa _ _)) | fail) only [s59_0, s59_1, s59_4, s59_7, s59_8, s59_9, s59_10, s59_11, s59_13, s59_16, s59_19, s59_20, s59_22, s59_25, s59_28, s59_29, s59_32, s59_33, azP_4 (HMa _ _) hp, grP_3 (HMa _ _) hp, gtP (HMa _ _) hp, gt_3 (HMa _ _), am59, isRf_ref, true_and, and_true, aPs_s, aPs_n, b01_0, b01_1, nI_clamp, ix_nI, inb_nI, lt_nI, eq_nI, nn_nI, eq0_nI, pk_mul, nI_add, lt_T, lt_F, if_true, if_false, true_and, and_true, neg1_nI, neg1_lt, neg1_neg, lt_neg1, eqN_F, eq_self,  r34, rx_ra, hb, rx_wa, c67x, c67', g, g2, Bool.not_false, Bool.not_true, Bool.true_and, Bool.false_and, Bool.and_true, Bool.and_false, Bool.or_true, Bool.or_false, Bool.true_or, Bool.false_or, Bool.true_eq_false, Bool.false_eq_true, if_true, if_false, Option.isSome_some, Option.isSome_none, Option.isNone_some, Option.isNone_none, zB_t, zB_f, nI1_0, nI0_0]
    · simp (disch := first | omega | assumption | exact gtP (HMa _ _) hp | exact gt_3 (HMa _ _) | (simp only [gT_pA, gT_pI, gT_pR]; first | assumption | exact gtP (HMa _ _) hp | exact gt_3 (HMa _ _)) | fail) only [s59_0, s59_1, s59_4, s59_7, s59_8, s59_9, s59_10, s59_11, s59_13, s59_16, s59_19, s59_20, s59_22, s59_25, s59_28, s59_29, s59_32, s59_33, azP_4 (HMa _ _) hp, grP_3 (HMa _ _) hp, gtP (HMa _ _) hp, gt_3 (HMa _ _), am59, isRf_ref, true_and, and_true, aPs_s, aPs_n, b01_0, b01_1, nI_clamp, ix_nI, inb_nI, lt_nI, eq_nI, nn_nI, eq0_nI, pk_mul, nI_add, lt_T, lt_F, if_true, if_false, true_and, and_true, neg1_nI, neg1_lt, neg1_neg, lt_neg1, eqN_F, eq_self,  r34, rx_ra, hb, rx_wa, c67x, c67', g, g2, Bool.not_false, Bool.not_true, Bool.true_and, Bool.false_and, Bool.and_true, Bool.and_false, Bool.or_true, Bool.or_false, Bool.true_or, Bool.false_or, Bool.true_eq_false, Bool.false_eq_true, if_true, if_false, Option.isSome_some, Option.isSome_none, Option.isNone_some, Option.isNone_none, zB_t, zB_f, nI1_0, nI0_0]
  · simp (disch := first | omega | assumption | exact gtP (HMa _ _) hp | exact gt_3 (HMa _ _) | (simp only [gT_pA, gT_pI, gT_pR]; first | assumption | exact gtP (HMa _ _) hp | exact gt_3 (HMa _ _)) | fail) only [s59_0, s59_1, s59_4, s59_7, s59_8, s59_9, s59_10, s59_11, s59_13, s59_16, s59_19, s59_20, s59_22, s59_25, s59_28, s59_29, s59_32, s59_33, azP_4 (HMa _ _) hp, grP_3 (HMa _ _) hp, gtP (HMa _ _) hp, gt_3 (HMa _ _), am59, isRf_ref, true_and, and_true, aPs_s, aPs_n, b01_0, b01_1, nI_clamp, ix_nI, inb_nI, lt_nI, eq_nI, nn_nI, eq0_nI, pk_mul, nI_add, lt_T, lt_F, if_true, if_false, true_and, and_true, neg1_nI, neg1_lt, neg1_neg, lt_neg1, eqN_F, eq_self,  r34, rx_ra, hb, rx_wa, c67x, c67', g, Bool.not_false, Bool.not_true, Bool.true_and, Bool.false_and, Bool.and_true, Bool.and_false, Bool.or_true, Bool.or_false, Bool.true_or, Bool.false_or, Bool.true_eq_false, Bool.false_eq_true, if_true, if_false, Option.isSome_some, Option.isSome_none, Option.isNone_some, Option.isNone_none, zB_t, zB_f, nI1_0, nI0_0]
theorem bfO_f {c : Nat → Nat} {T a : Nat} (g : inR (hr c T a) 97 108 = false) : bfO c T a = none := by unfold bfO; rw [if_neg (by rw [g]; decide)]
theorem bfO_t {c : Nat → Nat} {T a : Nat} (g : inR (hr c T a) 97 108 = true) : bfO c T a = some (c a - 97) := by unfold bfO; rw [if_pos g]
theorem rdN_76 {A : Nat → Nat → Int32} {s n b t k : Nat} {x : Int32} : rdN (upA A 76 t x) s n b = rdN A s n b := by
  unfold rdN
  exact congrArg Option.isSome (fst1_cg (fun i _ _ => by rw [upA_no (by omega)]))
/-- what is told of a STEP that is being READ -/
def okR (A : Nat → Nat → Int32) (s n : Nat) : Prop := ∀ k, k < n → bn (A 77 (4 * s + k)) 12 ∧ A 68 (nRd A s k) ≠ 0
set_option maxHeartbeats 8000000 in
theorem c63_2 (H : KC h) (hp : q = 5 ∨ q = 17) (hi : gR h 3 4 = .ref q) {c : Nat → Nat} {T s : Nat} (C : tpC h c T) (hs : s < 10) : ∀ {m n a : Nat} {A G : Nat → Nat → Int32} {l3 : Value}, n + m = 4 → a ≤ T → okW A → nS A = s → okR A s n → RG G (upA A 76 s (nI n)) (s + 1) s → ∃ G', okW (rrN c T s m n a A).2.2 ∧ nS (rrN c T s m n a A).2.2 = s ∧ (rrN c T s m n a A).2.2 73 = A 73 ∧ okR (rrN c T s m n a A).2.2 s (rrN c T s m n a A).1 ∧ RG G' (upA (rrN c T s m n a A).2.2 76 s (nI (rrN c T s m n a A).1)) (s + 1) s ∧ ∀ Q, aW (d + 1) 63 2 [.ref 3, .int (nI s), .int (nI n), l3] [] (rx h q c T a G) Q = Q none (rx h q c T (rrN c T s m n a A).2.1 G') := by
  have HMa : ∀ a G, KC (rx h q c T a G) := fun _ _ => H
  have r34 : ∀ a G, gR (rx h q c T a G) 3 4 = .ref q := fun _ _ => hi
  intro m
  induction m with
  | zero =>
    intro n a A G l3 hn ha W hS M R
    have hn : n = 4 := by omega
    subst hn
    rw [rrN]
    refine ⟨G, W, hS, rfl, M, R, fun Q => ?_⟩
    rw [s63_2]
    simp (disch := first | omega | assumption | exact gt_3 (HMa _ _) | (simp only [gT_pA, gT_pI, gT_pR]; first | assumption | exact gt_3 (HMa _ _)) | fail) only [s63_0, s63_1, s63_3, s63_4, s63_7, s63_8, s63_11, s63_12, s63_13, s63_16, s63_17, s63_20, s63_23, s63_24, s63_27, s63_28, s63_29, s63_32, s63_35, s63_36, s63_37, s63_38, s63_41, s63_42, s63_43, s63_46, s63_47, s63_50, s63_51, s63_52, s63_55, s63_58, s63_61, gt_3 (HMa _ _), am63, isRf_ref, true_and, and_true, aPs_s, aPs_n, b01_0, b01_1, nI_clamp, ix_nI, inb_nI, lt_nI, eq_nI, nn_nI, eq0_nI, pk_mul, nI_add, lt_T, lt_F, if_true, if_false, true_and, and_true, neg1_nI, neg1_lt, neg1_neg, lt_neg1, eqN_F, eq_self,  Nat.lt_irrefl]
  | succ m ih =>
    intro n a A G l3 hn ha W hS M R
    have n4 : n < 4 := by omega
    have e1 : ∀ b, b < 12 → G 1 b = A 69 b := fun b hb => by rw [(R.2.1 b hb).1, upA_no (by omega)]
    have c69' : ∀ Q', aM d 69 [.ref 3] (rx h q c T a G) Q' = Q' (some (.int (oI (bfO c T a)))) (rx h q c T a G) := fun Q' => c69 H hp C
    have c44' : ∀ Q', aM d 44 [.ref q, .int (oI (bfO c T a))] (rx h q c T a G) Q' = Q' (some (.int (zB (dcO A (bfO c T a))))) (rx h q c T a G) := fun Q' => c44r H hp W e1 (fun b e => (bfO_lt e).1)
    rcases Bool.eq_false_or_eq_true (inR (hr c T a) 97 108) with g1 | g1
    · obtain ⟨q1, q2, q3, q4⟩ := inR_of g1
      have eb := bfO_t g1
      have b12 : c a - 97 < 12 := by omega
      rw [rrN]
      generalize c a - 97 = b at *
      rw [eb, oI_s] at c44' c69'
      rcases Bool.eq_false_or_eq_true (A 68 b != 0) with g2 | g2
      · have d1 : dcO A (some b) = true := g2
        rw [d1] at c44'
        have em : G 6 b = nI (rdM (upA A 76 s (nI n)) b (s + 1)) := (R.2.1 b b12).2.2.2
        have c50' : ∀ Q', aM d 50 [.ref q, .int (nI b), .int (nI s)] (rx h q c T a G) Q' = Q' (some (.int (zB (rdN A s n b)))) (rx h q c T a G) := by
          intro Q'
          have l31 : rdM (upA A 76 s (nI n)) b (s + 1) < 2 ^ 31 := Nat.lt_of_lt_of_le rdM_lt (Nat.pow_le_pow_right (by decide) (by omega))
          rw [c50r H hp l31 b12 (by omega) em, rdM_tb, mRdB_n (by omega), show decide (s < s + 1) = true from decide_eq_true (by omega), Bool.true_and]
        rcases Bool.eq_false_or_eq_true (rdN A s n b) with g3 | g3
        · rw [if_neg (by rw [g1, g2, g3]; decide)]
          refine ⟨G, W, hS, rfl, M, R, fun Q => ?_⟩
          rw [g3] at c50'
          rw [s63_2]
          simp (disch := first | omega | assumption | exact gtP (HMa _ _) hp | exact gt_3 (HMa _ _) | (simp only [gT_pA, gT_pI, gT_pR]; first | assumption | exact gtP (HMa _ _) hp | exact gt_3 (HMa _ _)) | fail) only [s63_0, s63_1, s63_3, s63_4, s63_7, s63_8, s63_11, s63_12, s63_13, s63_16, s63_17, s63_20, s63_23, s63_24, s63_27, s63_28, s63_29, s63_32, s63_35, s63_36, s63_37, s63_38, s63_41, s63_42, s63_43, s63_46, s63_47, s63_50, s63_51, s63_52, s63_55, s63_58, s63_61, gtP (HMa _ _) hp, gt_3 (HMa _ _), am63, isRf_ref, true_and, and_true, aPs_s, aPs_n, b01_0, b01_1, nI_clamp, ix_nI, inb_nI, lt_nI, eq_nI, nn_nI, eq0_nI, pk_mul, nI_add, lt_T, lt_F, if_true, if_false, true_and, and_true, neg1_nI, neg1_lt, neg1_neg, lt_neg1, eqN_F, eq_self,  r34, n4, c69', c44', c50', Bool.not_false, Bool.not_true, Bool.true_and, Bool.false_and, Bool.and_true, Bool.and_false, Bool.or_true, Bool.or_false, Bool.true_or, Bool.false_or, Bool.true_eq_false, Bool.false_eq_true, if_true, if_false, Option.isSome_some, Option.isSome_none, Option.isNone_some, Option.isNone_none, zB_t, zB_f, nI1_0, nI0_0]
        · rw [if_pos (by rw [g1, g2, g3]; decide)]
          have R2 := RG_read b12 n4 (fun t ht => W.r4 t (by omega)) g3 R
          have W2 : okW (upA A 77 (4 * s + n) (nI b)) := by
            refine okW_cg W ⟨fun c hc => ?_, fun t ht => ?_⟩ ?_ (fun j hj => ?_)
            · simp (disch := omega) only [upA_no]
              exact ⟨trivial, trivial, trivial, fun _ _ => ⟨trivial, trivial⟩⟩
            · have := W.r4 t ht
              simp (disch := omega) only [upA_no]
              exact ⟨trivial, trivial, trivial, trivial, fun k hk => by simp (disch := omega) only [upA_no]⟩
            · simp (disch := omega) only [upA_no]
            · simp (disch := omega) only [upA_no]
              exact W.1.2.2.2 j hj
          have hS2 : nS (upA A 77 (4 * s + n) (nI b)) = s := by rw [nS_up (by decide)]; exact hS
          have M2 : okR (upA A 77 (4 * s + n) (nI b)) s (n + 1) := by
            intro k hk
            unfold nRd
            by_cases e : k = n
            · subst e
              simp (disch := omega) only [upA_no, upA_at]
              rw [ix_nI (by omega)]
              exact ⟨bn_nI b12 (by decide), fun q => by rw [q] at g2; cases g2⟩
            · simp (disch := omega) only [upA_no]
              exact M k (by omega)
          obtain ⟨G', k1, k2, k3, k4, k5, k6⟩ := ih (n := n + 1) (a := a + 1) (A := upA A 77 (4 * s + n) (nI b)) (l3 := .int (nI b)) (by omega) q1 W2 hS2 M2 R2
          refine ⟨G', k1, k2, k3, k4, k5, fun Q => ?_⟩
          have e3 := rx_at (h := h) (c := c) (T := T) (a := a) (G := G) hp
          have c70' : ∀ Q', aM d 70 [.ref 3, .int (nI (a + 1))] (rx h q c T a G) Q' = Q' none (rx h q c T (a + 1) G) := fun Q' => c70 H hp C q1
          have c48' : ∀ Q', aM d 48 [.ref q, .int (nI s), .int (nI b)] (rx h q c T (a + 1) G) Q' = Q' none (rx h q c T (a + 1) (upA (upA (upA G 11 (4 * s + n) (nI b)) 10 s (nI (n + 1))) 6 b (nI (rdM (upA A 76 s (nI n)) b (s + 1) ||| 2 ^ s)))) := fun Q' => c48 H hp hs b12 n4 (by rw [(R.2.2.2.1 s (by omega)).2.1, upA_at]) em
          rw [g3] at c50'
          rw [s63_2]
          simp (disch := first | omega | assumption | exact gtP (HMa _ _) hp | exact gt_3 (HMa _ _) | (simp only [gT_pA, gT_pI, gT_pR]; first | assumption | exact gtP (HMa _ _) hp | exact gt_3 (HMa _ _)) | fail) only [s63_0, s63_1, s63_3, s63_4, s63_7, s63_8, s63_11, s63_12, s63_13, s63_16, s63_17, s63_20, s63_23, s63_24, s63_27, s63_28, s63_29, s63_32, s63_35, s63_36, s63_37, s63_38, s63_41, s63_42, s63_43, s63_46, s63_47, s63_50, s63_51, s63_52, s63_55, s63_58, s63_61, gtP (HMa _ _) hp, gt_3 (HMa _ _), am63, isRf_ref, true_and, and_true, aPs_s, aPs_n, b01_0, b01_1, nI_clamp, ix_nI, inb_nI, lt_nI, eq_nI, nn_nI, eq0_nI, pk_mul, nI_add, lt_T, lt_F, if_true, if_false, true_and, and_true, neg1_nI, neg1_lt, neg1_neg, lt_neg1, eqN_F, eq_self,  r34, n4, c69', c44', c50', Bool.not_false, Bool.not_true, Bool.true_and, Bool.false_and, Bool.and_true, Bool.and_false, Bool.or_true, Bool.or_false, Bool.true_or, Bool.false_or, Bool.true_eq_false, Bool.false_eq_true, if_true, if_false, Option.isSome_some, Option.isSome_none, Option.isNone_some, Option.isNone_none, zB_t, zB_f, nI1_0, nI0_0, e3, c70', c48']
          exact k6 Q
      · have d1 : dcO A (some b) = false := g2
        rw [d1] at c44'
        rw [if_neg (by rw [g1, g2]; simp)]
        refine ⟨G, W, hS, rfl, M, R, fun Q => ?_⟩
        rw [s63_2]
        simp (disch := first | omega | assumption | exact gtP (HMa _ _) hp | exact gt_3 (HMa _ _) | (simp only [gT_pA, gT_pI, gT_pR]; first | assumption | exact gtP (HMa _ _) hp | exact gt_3 (HMa _ _)) | fail) only [s63_0, s63_1, s63_3, s63_4, s63_7, s63_8, s63_11, s63_12, s63_13, s63_16, s63_17, s63_20, s63_23, s63_24, s63_27, s63_28, s63_29, s63_32, s63_35, s63_36, s63_37, s63_38, s63_41, s63_42, s63_43, s63_46, s63_47, s63_50, s63_51, s63_52, s63_55, s63_58, s63_61, gtP (HMa _ _) hp, gt_3 (HMa _ _), am63, isRf_ref, true_and, and_true, aPs_s, aPs_n, b01_0, b01_1, nI_clamp, ix_nI, inb_nI, lt_nI, eq_nI, nn_nI, eq0_nI, pk_mul, nI_add, lt_T, lt_F, if_true, if_false, true_and, and_true, neg1_nI, neg1_lt, neg1_neg, lt_neg1, eqN_F, eq_self,  r34, n4, c69', c44', Bool.not_false, Bool.not_true, Bool.true_and, Bool.false_and, Bool.and_true, Bool.and_false, Bool.or_true, Bool.or_false, Bool.true_or, Bool.false_or, Bool.true_eq_false, Bool.false_eq_true, if_true, if_false, Option.isSome_some, Option.isSome_none, Option.isNone_some, Option.isNone_none, zB_t, zB_f, nI1_0, nI0_0]
    · rw [rrN, if_neg (by rw [g1]; simp)]
      refine ⟨G, W, hS, rfl, M, R, fun Q => ?_⟩
      have d1 : dcO A none = false := rfl
      rw [bfO_f g1] at c44' c69'
      rw [d1] at c44'
      rw [s63_2]
      simp (disch := first | omega | assumption | exact gtP (HMa _ _) hp | exact gt_3 (HMa _ _) | (simp only [gT_pA, gT_pI, gT_pR]; first | assumption | exact gtP (HMa _ _) hp | exact gt_3 (HMa _ _)) | fail) only [s63_0, s63_1, s63_3, s63_4, s63_7, s63_8, s63_11, s63_12, s63_13, s63_16, s63_17, s63_20, s63_23, s63_24, s63_27, s63_28, s63_29, s63_32, s63_35, s63_36, s63_37, s63_38, s63_41, s63_42, s63_43, s63_46, s63_47, s63_50, s63_51, s63_52, s63_55, s63_58, s63_61, gtP (HMa _ _) hp, gt_3 (HMa _ _), am63, isRf_ref, true_and, and_true, aPs_s, aPs_n, b01_0, b01_1, nI_clamp, ix_nI, inb_nI, lt_nI, eq_nI, nn_nI, eq0_nI, pk_mul, nI_add, lt_T, lt_F, if_true, if_false, true_and, and_true, neg1_nI, neg1_lt, neg1_neg, lt_neg1, eqN_F, eq_self,  r34, n4, c69', c44', Bool.not_false, Bool.not_true, Bool.true_and, Bool.false_and, Bool.and_true, Bool.and_false, Bool.or_true, Bool.or_false, Bool.true_or, Bool.false_or, Bool.true_eq_false, Bool.false_eq_true, if_true, if_false, Option.isSome_some, Option.isSome_none, Option.isNone_some, Option.isNone_none, zB_t, zB_f, nI1_0, nI0_0]
/-- may a BUFFER be WRITTEN by a STEP -/
def okB (c : Nat → Nat) (T a s n : Nat) (B : Nat → Nat → Int32) : Bool := inR (hr c T a) 97 108 && (B 68 (c a - 97) != 0 && (!(mWr B (c a - 97)).isSome && !rdN B s n (c a - 97)))
theorem oI_nn {t : Option Nat} (ht : ∀ x, t = some x → x < 2 ^ 31) : (oI t < 0) = (t.isSome = false) := by
  cases t with
  | none => simp [oI, iflt_m1]
  | some x => simp [oI, nn_nI (ht x rfl)]
set_option maxHeartbeats 8000000 in
theorem c64 (H : KC h) (hp : q = 5 ∨ q = 17) (hi : gR h 3 4 = .ref q) {c : Nat → Nat} {T a s n : Nat} (C : tpC h c T) (hs : s < 10) (hn : n ≤ 4) {B G : Nat → Nat → Int32} (W : okW B) (hS : nS B = s) (h76 : B 76 s = nI n) (R : RG G B (s + 1) s) : aM (d + 1) 64 [.ref 3, .int (nI s)] (rx h q c T a G) Q = if okB c T a s n B = true then Q (some (.int (nI 1))) (rx h q c T (a + 1) (upA (upA G 9 s (nI (c a - 97))) 5 (c a - 97) (nI s))) else Q (some (.int (nI 0))) (rx h q c T a G) := by
  have HMa : ∀ a G, KC (rx h q c T a G) := fun _ _ => H
  have r34 : ∀ a G, gR (rx h q c T a G) 3 4 = .ref q := fun _ _ => hi
  have e1 : ∀ b, b < 12 → G 1 b = B 69 b := fun b hb => (R.2.1 b hb).1
  have c69' : ∀ Q', aM d 69 [.ref 3] (rx h q c T a G) Q' = Q' (some (.int (oI (bfO c T a)))) (rx h q c T a G) := fun Q' => c69 H hp C
  have c44' : ∀ Q', aM d 44 [.ref q, .int (oI (bfO c T a))] (rx h q c T a G) Q' = Q' (some (.int (zB (dcO B (bfO c T a))))) (rx h q c T a G) := fun Q' => c44r H hp W e1 (fun b e => (bfO_lt e).1)
  unfold okB
  rcases Bool.eq_false_or_eq_true (inR (hr c T a) 97 108) with g1 | g1
  · obtain ⟨q1, q2, q3, q4⟩ := inR_of g1
    have eb := bfO_t g1
    have b12 : c a - 97 < 12 := by omega
    generalize c a - 97 = b at *
    rw [eb, oI_s] at c44' c69'
    obtain ⟨x1, x2, x3, x4⟩ := R.2.1 b b12
    have x3 : G 5 b = oI (mWr B b) := by rw [x3]; unfold mWr wrN; rw [hS]
    have hw : ∀ x, mWr B b = some x → x < 2 ^ 31 := fun x e => by have := mWr_lt e; omega
    have hd : mRdB B s b = rdN B s n b := by unfold mRdB rdN nRc; rw [h76, ix_nI (by omega)]
    have c50' : ∀ Q', aM d 50 [.ref q, .int (nI b), .int (nI s)] (rx h q c T a G) Q' = Q' (some (.int (zB (rdN B s n b)))) (rx h q c T a G) := by
      intro Q'
      have l31 : rdM B b (s + 1) < 2 ^ 31 := Nat.lt_of_lt_of_le rdM_lt (Nat.pow_le_pow_right (by decide) (by omega))
      rw [c50r H hp l31 b12 (by omega) x4, rdM_tb, hd, show decide (s < s + 1) = true from decide_eq_true (by omega), Bool.true_and]
    have un := oI_nn hw
    rcases Bool.eq_false_or_eq_true (B 68 b != 0) with g2 | g2
    · have d1 : dcO B (some b) = true := g2
      rw [d1] at c44'
      rcases Bool.eq_false_or_eq_true (mWr B b).isSome with g3 | g3
      · simp (disch := first | omega | assumption | exact gtP (HMa _ _) hp | exact gt_3 (HMa _ _) | (simp only [gT_pA, gT_pI, gT_pR]; first | assumption | exact gtP (HMa _ _) hp | exact gt_3 (HMa _ _)) | fail) only [s64_0, s64_1, s64_4, s64_5, s64_6, s64_9, s64_10, s64_13, s64_16, s64_17, s64_20, s64_23, s64_24, s64_25, s64_28, s64_29, s64_32, s64_33, s64_34, s64_37, s64_40, s64_41, s64_42, s64_43, s64_44, s64_47, s64_48, s64_49, s64_52, s64_53, s64_56, s64_57, s64_58, s64_61, s64_62, aiP_5 (HMa _ _) hp, grP_4 (HMa _ _) hp, gtP (HMa _ _) hp, gt_3 (HMa _ _), am64, isRf_ref, true_and, and_true, aPs_s, aPs_n, b01_0, b01_1, nI_clamp, ix_nI, inb_nI, lt_nI, eq_nI, nn_nI, eq0_nI, pk_mul, nI_add, lt_T, lt_F, if_true, if_false, true_and, and_true, neg1_nI, neg1_lt, neg1_neg, lt_neg1, eqN_F, eq_self,  r34, c69', c44', Bool.not_false, Bool.not_true, Bool.true_and, Bool.false_and, Bool.and_true, Bool.and_false, Bool.or_true, Bool.or_false, Bool.true_or, Bool.false_or, Bool.true_eq_false, Bool.false_eq_true, if_true, if_false, Option.isSome_some, Option.isSome_none, Option.isNone_some, Option.isNone_none, zB_t, zB_f, nI1_0, nI0_0, rx_ra, b12, x3, un, g1, g2, g3]
      · rcases Bool.eq_false_or_eq_true (rdN B s n b) with g4 | g4
        · simp (disch := first | omega | assumption | exact gtP (HMa _ _) hp | exact gt_3 (HMa _ _) | (simp only [gT_pA, gT_pI, gT_pR]; first | assumption | exact gtP (HMa _ _) hp | exact gt_3 (HMa _ _)) | fail) only [s64_0, s64_1, s64_4, s64_5, s64_6, s64_9, s64_10, s64_13, s64_16, s64_17, s64_20, s64_23, s64_24, s64_25, s64_28, s64_29, s64_32, s64_33, s64_34, s64_37, s64_40, s64_41, s64_42, s64_43, s64_44, s64_47, s64_48, s64_49, s64_52, s64_53, s64_56, s64_57, s64_58, s64_61, s64_62, aiP_5 (HMa _ _) hp, grP_4 (HMa _ _) hp, gtP (HMa _ _) hp, gt_3 (HMa _ _), am64, isRf_ref, true_and, and_true, aPs_s, aPs_n, b01_0, b01_1, nI_clamp, ix_nI, inb_nI, lt_nI, eq_nI, nn_nI, eq0_nI, pk_mul, nI_add, lt_T, lt_F, if_true, if_false, true_and, and_true, neg1_nI, neg1_lt, neg1_neg, lt_neg1, eqN_F, eq_self,  r34, c69', c44', Bool.not_false, Bool.not_true, Bool.true_and, Bool.false_and, Bool.and_true, Bool.and_false, Bool.or_true, Bool.or_false, Bool.true_or, Bool.false_or, Bool.true_eq_false, Bool.false_eq_true, if_true, if_false, Option.isSome_some, Option.isSome_none, Option.isNone_some, Option.isNone_none, zB_t, zB_f, nI1_0, nI0_0, rx_ra, b12, x3, un, g1, g2, g3, c50', g4]
        · have e3 := rx_at (h := h) (c := c) (T := T) (a := a) (G := G) hp
          have c70' : ∀ Q', aM d 70 [.ref 3, .int (nI (a + 1))] (rx h q c T a G) Q' = Q' none (rx h q c T (a + 1) G) := fun Q' => c70 H hp C q1
          have c49' : ∀ Q', aM d 49 [.ref q, .int (nI s), .int (nI b)] (rx h q c T (a + 1) G) Q' = Q' none (rx h q c T (a + 1) (upA (upA G 9 s (nI b)) 5 b (nI s))) := fun Q' => c49 H hp hs b12
          simp (disch := first | omega | assumption | exact gtP (HMa _ _) hp | exact gt_3 (HMa _ _) | (simp only [gT_pA, gT_pI, gT_pR]; first | assumption | exact gtP (HMa _ _) hp | exact gt_3 (HMa _ _)) | fail) only [s64_0, s64_1, s64_4, s64_5, s64_6, s64_9, s64_10, s64_13, s64_16, s64_17, s64_20, s64_23, s64_24, s64_25, s64_28, s64_29, s64_32, s64_33, s64_34, s64_37, s64_40, s64_41, s64_42, s64_43, s64_44, s64_47, s64_48, s64_49, s64_52, s64_53, s64_56, s64_57, s64_58, s64_61, s64_62, aiP_5 (HMa _ _) hp, grP_4 (HMa _ _) hp, gtP (HMa _ _) hp, gt_3 (HMa _ _), am64, isRf_ref, true_and, and_true, aPs_s, aPs_n, b01_0, b01_1, nI_clamp, ix_nI, inb_nI, lt_nI, eq_nI, nn_nI, eq0_nI, pk_mul, nI_add, lt_T, lt_F, if_true, if_false, true_and, and_true, neg1_nI, neg1_lt, neg1_neg, lt_neg1, eqN_F, eq_self,  r34, c69', c44', Bool.not_false, Bool.not_true, Bool.true_and, Bool.false_and, Bool.and_true, Bool.and_false, Bool.or_true, Bool.or_false, Bool.true_or, Bool.false_or, Bool.true_eq_false, Bool.false_eq_true, if_true, if_false, Option.isSome_some, Option.isSome_none, Option.isNone_some, Option.isNone_none, zB_t, zB_f, nI1_0, nI0_0, rx_ra, b12, x3, un, g1, g2, g3, c50', g4, e3, c70', c49']
    · have d1 : dcO B (some b) = false := g2
      rw [d1] at c44'
      simp (disch := first | omega | assumption | exact gtP (HMa _ _) hp | exact gt_3 (HMa _ _) | (simp only [gT_pA, gT_pI, gT_pR]; first | assumption | exact gtP (HMa _ _) hp | exact gt_3 (HMa _ _)) | fail) only [s64_0, s64_1, s64_4, s64_5, s64_6, s64_9, s64_10, s64_13, s64_16, s64_17, s64_20, s64_23, s64_24, s64_25, s64_28, s64_29, s64_32, s64_33, s64_34, s64_37, s64_40, s64_41, s64_42, s64_43, s64_44, s64_47, s64_48, s64_49, s64_52, s64_53, s64_56, s64_57, s64_58, s64_61, s64_62, aiP_5 (HMa _ _) hp, grP_4 (HMa _ _) hp, gtP (HMa _ _) hp, gt_3 (HMa _ _), am64, isRf_ref, true_and, and_true, aPs_s, aPs_n, b01_0, b01_1, nI_clamp, ix_nI, inb_nI, lt_nI, eq_nI, nn_nI, eq0_nI, pk_mul, nI_add, lt_T, lt_F, if_true, if_false, true_and, and_true, neg1_nI, neg1_lt, neg1_neg, lt_neg1, eqN_F, eq_self,  r34, c69', c44', Bool.not_false, Bool.not_true, Bool.true_and, Bool.false_and, Bool.and_true, Bool.and_false, Bool.or_true, Bool.or_false, Bool.true_or, Bool.false_or, Bool.true_eq_false, Bool.false_eq_true, if_true, if_false, Option.isSome_some, Option.isSome_none, Option.isNone_some, Option.isNone_none, zB_t, zB_f, nI1_0, nI0_0, g1, g2]
  · have d1 : dcO B none = false := rfl
    rw [bfO_f g1] at c44' c69'
    rw [d1] at c44'
    simp (disch := first | omega | assumption | exact gtP (HMa _ _) hp | exact gt_3 (HMa _ _) | (simp only [gT_pA, gT_pI, gT_pR]; first | assumption | exact gtP (HMa _ _) hp | exact gt_3 (HMa _ _)) | fail) only [s64_0, s64_1, s64_4, s64_5, s64_6, s64_9, s64_10, s64_13, s64_16, s64_17, s64_20, s64_23, s64_24, s64_25, s64_28, s64_29, s64_32, s64_33, s64_34, s64_37, s64_40, s64_41, s64_42, s64_43, s64_44, s64_47, s64_48, s64_49, s64_52, s64_53, s64_56, s64_57, s64_58, s64_61, s64_62, aiP_5 (HMa _ _) hp, grP_4 (HMa _ _) hp, gtP (HMa _ _) hp, gt_3 (HMa _ _), am64, isRf_ref, true_and, and_true, aPs_s, aPs_n, b01_0, b01_1, nI_clamp, ix_nI, inb_nI, lt_nI, eq_nI, nn_nI, eq0_nI, pk_mul, nI_add, lt_T, lt_F, if_true, if_false, true_and, and_true, neg1_nI, neg1_lt, neg1_neg, lt_neg1, eqN_F, eq_self,  r34, c69', c44', Bool.not_false, Bool.not_true, Bool.true_and, Bool.false_and, Bool.and_true, Bool.and_false, Bool.or_true, Bool.or_false, Bool.true_or, Bool.false_or, Bool.true_eq_false, Bool.false_eq_true, if_true, if_false, Option.isSome_some, Option.isSome_none, Option.isNone_some, Option.isNone_none, zB_t, zB_f, nI1_0, nI0_0, g1]
set_option maxHeartbeats 8000000 in
theorem c65 (H : KC h) (hp : q = 5 ∨ q = 17) (hi : gR h 3 4 = .ref q) {c : Nat → Nat} {T a s : Nat} (C : tpC h c T) (ha : a ≤ T) (hs : s < 10) {G : Nat → Nat → Int32} : aM (d + 2) 65 [.ref 3, .int (nI s)] (rx h q c T a G) Q = Q (some (.int (zB (nm2 c T a).1.isSome))) (rx h q c T (nm2 c T a).2 (upA G 8 s (oI (nm2 c T a).1))) := by
  have HMa : ∀ a G, KC (rx h q c T a G) := fun _ _ => H
  have r34 : ∀ a G, gR (rx h q c T a G) 3 4 = .ref q := fun _ _ => hi
  have c66' : ∀ Q', aM (d + 1) 66 [.ref 3] (rx h q c T a G) Q' = Q' (some (.int (oI (nm2 c T a).1))) (rx h q c T (nm2 c T a).2 G) := fun Q' => c66 H hp C
  have v1 := (nm2_ok (c := c) ha).2.2
  have un := oI_nn (t := (nm2 c T a).1) (fun x hx => by have := v1 x hx; omega)
  generalize nm2 c T a = r at *
  have u1 : upA G 8 s (oI r.1) 8 s = oI r.1 := upA_at
  rcases Bool.eq_false_or_eq_true r.1.isSome with g | g
  · simp (disch := first | omega | assumption | exact gtP (HMa _ _) hp | exact gt_3 (HMa _ _) | (simp only [gT_pA, gT_pI, gT_pR]; first | assumption | exact gtP (HMa _ _) hp | exact gt_3 (HMa _ _)) | fail) only [s65_0, s65_1, s65_4, s65_7, s65_8, s65_9, s65_12, s65_13, s65_14, s65_17, s65_20, s65_21, s65_22, s65_25, s65_26, s65_29, s65_30, aiP_8 (HMa _ _) hp, ajP_8 (HMa _ _) hp, grP_8 (HMa _ _) hp, gtP (HMa _ _) hp, gt_3 (HMa _ _), am65, isRf_ref, true_and, and_true, aPs_s, aPs_n, b01_0, b01_1, nI_clamp, ix_nI, inb_nI, lt_nI, eq_nI, nn_nI, eq0_nI, pk_mul, nI_add, lt_T, lt_F, if_true, if_false, true_and, and_true, neg1_nI, neg1_lt, neg1_neg, lt_neg1, eqN_F, eq_self,  r34, c66', rx_ra, hs, rx_wa, u1, un, g, Bool.not_false, Bool.not_true, Bool.true_and, Bool.false_and, Bool.and_true, Bool.and_false, Bool.or_true, Bool.or_false, Bool.true_or, Bool.false_or, Bool.true_eq_false, Bool.false_eq_true, if_true, if_false, Option.isSome_some, Option.isSome_none, Option.isNone_some, Option.isNone_none, zB_t, zB_f, nI1_0, nI0_0]
  · simp (disch := first | omega | assumption | exact gtP (HMa _ _) hp | exact gt_3 (HMa _ _) | (simp only [gT_pA, gT_pI, gT_pR]; first | assumption | exact gtP (HMa _ _) hp | exact gt_3 (HMa _ _)) | fail) only [s65_0, s65_1, s65_4, s65_7, s65_8, s65_9, s65_12, s65_13, s65_14, s65_17, s65_20, s65_21, s65_22, s65_25, s65_26, s65_29, s65_30, aiP_8 (HMa _ _) hp, ajP_8 (HMa _ _) hp, grP_8 (HMa _ _) hp, gtP (HMa _ _) hp, gt_3 (HMa _ _), am65, isRf_ref, true_and, and_true, aPs_s, aPs_n, b01_0, b01_1, nI_clamp, ix_nI, inb_nI, lt_nI, eq_nI, nn_nI, eq0_nI, pk_mul, nI_add, lt_T, lt_F, if_true, if_false, true_and, and_true, neg1_nI, neg1_lt, neg1_neg, lt_neg1, eqN_F, eq_self,  r34, c66', rx_ra, hs, rx_wa, u1, un, g, Bool.not_false, Bool.not_true, Bool.true_and, Bool.false_and, Bool.and_true, Bool.and_false, Bool.or_true, Bool.or_false, Bool.true_or, Bool.false_or, Bool.true_eq_false, Bool.false_eq_true, if_true, if_false, Option.isSome_some, Option.isSome_none, Option.isNone_some, Option.isNone_none, zB_t, zB_f, nI1_0, nI0_0]
end C20
