/-! THE REFERENCE: HEIGHT, the loop -/
def hG (h : abH) (R H L : Nat → Int32) : abH := pA (pA (pA h 101 R) 90 H) 102 L
/-- the best row so far -/
def hgB (P : Nat → Nat → Int32) (o bb : Nat → Nat) (n : Nat) (best : Option (List Nat)) (r : List Nat) : Option (List Nat) := match best with
  | none => some r
  | some b => if lyT P o bb (gf r) n < lyT P o bb (gf b) n then some r else some b
def hgF (P : Nat → Nat → Int32) (o bb : Nat → Nat) (n : Nat) : Option (List Nat) → List (List Nat) → Option (List Nat)
  | best, [] => best
  | best, r :: l => hgF P o bb n (hgB P o bb n best r) l
def hgT (P : Nat → Nat → Int32) (o bb : Nat → Nat) (n : Nat) (best : Option (List Nat)) : Option Nat := match best with
  | none => none
  | some b => some (lyT P o bb (gf b) n)
/-- the places that a best row tells -/
def hgA (P : Nat → Nat → Int32) (o bb : Nat → Nat) (n : Nat) (best : Option (List Nat)) (g : Nat → Int32) : Nat → Int32 := match best with
  | none => g
  | some b => pre (fun k => nI (lyL P o bb (gf b) n k)) n g
theorem chn_row {n : Nat} {r : List Nat} {l : List (List Nat)} (h : chn n (r :: l) = true) : (∀ k, k < n → gf r k < n ∧ ∃ j, j < n ∧ gf r j = k) ∧ (match l with
    | [] => nxR (gf r) n = none
    | r' :: _ => (∃ f', nxR (gf r) n = some f' ∧ ∀ k, k < n → f' k = gf r' k) ∧ chn n l = true) := by
  rw [chn.eq_def] at h
  simp only at h
  obtain ⟨h1, h⟩ := Bool.and_eq_true_iff.mp h
  obtain ⟨h2, h3⟩ := Bool.and_eq_true_iff.mp h
  have hlen : r.length = n := eq_of_beq h2
  rw [List.all_eq_true] at h1
  constructor
  · intro k hk
    obtain ⟨a, b⟩ := Bool.and_eq_true_iff.mp (h1 k (List.mem_range.mpr hk))
    refine ⟨of_decide_eq_true b, ?_⟩
    have hm : k ∈ r := by simpa using a
    obtain ⟨j, hj, e⟩ := List.getElem_of_mem hm
    refine ⟨j, by omega, ?_⟩
    unfold gf
    rw [List.getD_eq_getElem?_getD, List.getElem?_eq_getElem hj, e]
    rfl
  · cases l with
    | nil => simpa using h3
    | cons r' l' =>
      obtain ⟨a, b⟩ := Bool.and_eq_true_iff.mp h3
      refine ⟨?_, b⟩
      cases hq : nxR (gf r) n with
      | none => simp only [hq] at a; cases a
      | some f' =>
        simp only [hq] at a
        rw [List.all_eq_true] at a
        exact ⟨f', rfl, fun k hk => eq_of_beq (a k (List.mem_range.mpr hk))⟩
section M17
variable {d : Nat} {h : abH} {Q : Option Value → abH → Prop}
set_option maxHeartbeats 4000000 in
theorem c185_92 (HM : KM h) {n : Nat} (hn : n ≤ 6) {R H L X : Nat → Int32} (hX : ∀ k, k < n → L k = X k) {l1 l2 l4 l5 l6 : Value} {C : Prop} (hC : aW (d + 3) 185 118 [.ref 65, l1, l2, .int (nI n), l4, l5, l6, .int (nI n)] [] (hG h R (pre X n H) L) Q = C) : aW (d + 3) 185 92 [.ref 65, l1, l2, .int (nI n), l4, l5, l6, .int (nI 0)] [] (hG h R H L) Q = C := by
  have loop := for_0 (F := fun i => aW (d + 3) 185 92 [.ref 65, l1, l2, .int (nI n), l4, l5, l6, .int (nI i)] [] (hG h R (pre X i H) L) Q) (R := C) n (by
    rw [s185_92]
    simp (disch := first | omega | assumption | exact gt_65 HM | fail) only [s185_0, s185_1, s185_2, s185_5, s185_6, s185_7, s185_10, s185_11, s185_12, s185_13, s185_16, s185_19, s185_21, s185_22, s185_23, s185_26, s185_27, s185_28, s185_29, s185_30, s185_34, s185_35, s185_38, s185_39, s185_42, s185_44, s185_46, s185_47, s185_50, s185_53, s185_54, s185_56, s185_57, s185_61, s185_64, s185_65, s185_66, s185_67, s185_70, s185_72, s185_74, s185_75, s185_78, s185_80, s185_82, s185_85, s185_87, s185_89, s185_90, s185_94, s185_95, s185_98, s185_99, s185_102, s185_104, s185_105, s185_108, s185_110, s185_111, s185_112, s185_115, s185_119, s185_120, s185_123, s185_125, s185_128, s185_129, s185_130, s185_133, s185_135, ai_102 HM, ai_95 HM, aj_101 HM, aj_90 HM, gr_65_31 HM, gr_65_43 HM, gr_65_50 HM, gr_65_51 HM, gt_65 HM, am185, isRf_ref, true_and, and_true, aPs_s, aPs_n, b01_0, b01_1, nI_clamp, ix_nI, inb_nI, lt_nI, eq_nI, nn_nI, eq0_nI, pk_mul, nI_add, lt_T, lt_F, if_true, if_false, true_and, and_true, neg1_nI, neg1_lt, neg1_neg, lt_neg1, eqN_F, eq_self,  Nat.lt_irrefl]
    exact hC) (fun i hi => by
    have HM2 : KM (hG h R (pre X i H) L) := HM
    have t65 := gt_65 HM2
    have i6 : i < 6 := by omega
    have rd : gI (hG h R (pre X i H) L) 102 i = X i := by unfold hG; rw [gI_eq, hX i hi]
    have up : pI (hG h R (pre X i H) L) 90 i (X i) = hG h R (pre X (i + 1) H) L := by
      unfold hG
      rw [pI_def, gI_ne (by decide), gI_eq, pre_upd, pA_comm (by decide), pA_pA]
    rw [s185_92]
    simp (disch := first | omega | assumption | exact gt_65 HM2 | fail) only [s185_0, s185_1, s185_2, s185_5, s185_6, s185_7, s185_10, s185_11, s185_12, s185_13, s185_16, s185_19, s185_21, s185_22, s185_23, s185_26, s185_27, s185_28, s185_29, s185_30, s185_34, s185_35, s185_38, s185_39, s185_42, s185_44, s185_46, s185_47, s185_50, s185_53, s185_54, s185_56, s185_57, s185_61, s185_64, s185_65, s185_66, s185_67, s185_70, s185_72, s185_74, s185_75, s185_78, s185_80, s185_82, s185_85, s185_87, s185_89, s185_90, s185_94, s185_95, s185_98, s185_99, s185_102, s185_104, s185_105, s185_108, s185_110, s185_111, s185_112, s185_115, s185_119, s185_120, s185_123, s185_125, s185_128, s185_129, s185_130, s185_133, s185_135, ai_102 HM2, ai_95 HM2, aj_101 HM2, aj_90 HM2, gr_65_31 HM2, gr_65_43 HM2, gr_65_50 HM2, gr_65_51 HM2, gt_65 HM2, am185, isRf_ref, true_and, and_true, aPs_s, aPs_n, b01_0, b01_1, nI_clamp, ix_nI, inb_nI, lt_nI, eq_nI, nn_nI, eq0_nI, pk_mul, nI_add, lt_T, lt_F, if_true, if_false, true_and, and_true, neg1_nI, neg1_lt, neg1_neg, lt_neg1, eqN_F, eq_self,  hi, rd, up])
  rw [pre_0] at loop
  exact loop
set_option maxHeartbeats 4000000 in
/-- one row: it lies, and the best one so far -/
theorem c185_r (HM : KM h) {P : Nat → Nat → Int32} (hP : pv h = P) (V : okP P) {o bb : Nat → Nat} (O : ovH h P o) {s n : Nat} (hs : s < 4) (hn : n ≤ 6) (B : shH h s n bb) {l2 : Value} {C : Prop} {g : Nat → Int32} (r : List Nat) (best : Option (List Nat)) (R L : Nat → Int32) (l6 l7 : Value) (hbs : ∀ b, best = some b → ∀ k, k < n → gf b k < n) (hr : ∀ k, k < n → gf r k < n ∧ ∃ j, j < n ∧ gf r j = k) (hR : ∀ k, k < n → R k = nI (gf r k)) (hC : ∀ L l6 l7, aW (d + 3) 185 118 [.ref 65, .int (nI s), l2, .int (nI n), .int (oI (hgT P o bb n (hgB P o bb n best r))), .int (nI 1), l6, l7] [] (hG h R (hgA P o bb n (hgB P o bb n best r) g) L) Q = C) : aW (d + 3) 185 59 [.ref 65, .int (nI s), l2, .int (nI n), .int (oI (hgT P o bb n best)), .int (nI 1), l6, l7] [] (hG h R (hgA P o bb n best g) L) Q = C := by
  have HM2 : KM (hG h R (hgA P o bb n best g) L) := HM
  have t65 := gt_65 HM2
  have hp2 : pv (hG h R (hgA P o bb n best g) L) = P := by unfold hG; rw [pv_pA (by omega), pv_pA (by omega), pv_pA (by omega), hP]
  have O2 : ovH (hG h R (hgA P o bb n best g) L) P o := O
  have B2 : shH (hG h R (hgA P o bb n best g) L) s n bb := B
  have R2 : rwH (hG h R (hgA P o bb n best g) L) n (gf r) := by
    intro i hi
    refine ⟨?_, (hr i hi).1⟩
    rw [← hR i hi]
    rfl
  have hbb : ∀ i, i < n → bb (gf r i) < 12 := fun i hi => (B (gf r i) (hr i hi).1).2
  have c182' : ∀ Q', aM (d + 2) 182 [.ref 65, .int (nI s), .int (nI n)] (hG h R (hgA P o bb n best g) L) Q' = Q' (some (.int (nI (lyT P o bb (gf r) n)))) (hG h R (hgA P o bb n best g) (lyA P o bb (gf r) L n)) := by
    intro Q'
    rw [c182 HM2 hp2 V O2 hs hn B2 R2]
    congr 1
    unfold lyH hG
    rw [gI_eq, pA_pA]
  obtain ⟨k1, k2⟩ := ly_ok V (o := o) (g := L) hn hbb (Nat.le_refl n)
  have hX : ∀ k, k < n → lyA P o bb (gf r) L n k = (fun k => nI (lyL P o bb (gf r) n k)) k := by
    intro k hk
    obtain ⟨j, hj, e⟩ := (hr k hk).2
    rw [← e]
    exact (k1 j hj).1
  have pp : ∀ best2 : Option (List Nat), pre (fun k => nI (lyL P o bb (gf r) n k)) n (hgA P o bb n best2 g) = hgA P o bb n (some r) g := by
    intro best2
    funext k
    cases best2 with
    | none => rfl
    | some b =>
      unfold hgA pre
      by_cases hk : k < n
      · simp only [hk, if_true]
      · simp only [hk, if_false]
  rw [s185_59]
  simp (disch := first | omega | assumption | exact gt_65 HM2 | fail) only [s185_0, s185_1, s185_2, s185_5, s185_6, s185_7, s185_10, s185_11, s185_12, s185_13, s185_16, s185_19, s185_21, s185_22, s185_23, s185_26, s185_27, s185_28, s185_29, s185_30, s185_34, s185_35, s185_38, s185_39, s185_42, s185_44, s185_46, s185_47, s185_50, s185_53, s185_54, s185_56, s185_57, s185_61, s185_64, s185_65, s185_66, s185_67, s185_70, s185_72, s185_74, s185_75, s185_78, s185_80, s185_82, s185_87, s185_89, s185_90, s185_94, s185_95, s185_98, s185_99, s185_102, s185_104, s185_105, s185_108, s185_110, s185_111, s185_112, s185_115, s185_119, s185_120, s185_123, s185_125, s185_129, s185_130, s185_133, s185_135, ai_102 HM2, ai_95 HM2, aj_101 HM2, aj_90 HM2, gr_65_31 HM2, gr_65_43 HM2, gr_65_50 HM2, gr_65_51 HM2, gt_65 HM2, am185, isRf_ref, true_and, and_true, aPs_s, aPs_n, b01_0, b01_1, nI_clamp, ix_nI, inb_nI, lt_nI, eq_nI, nn_nI, eq0_nI, pk_mul, nI_add, lt_T, lt_F, if_true, if_false, true_and, and_true, neg1_nI, neg1_lt, neg1_neg, lt_neg1, eqN_F, eq_self,  c182']
  cases best with
  | none =>
    have hC2 := hC
    simp (disch := first | omega | assumption | exact gt_65 HM2 | fail) only [s185_0, s185_1, s185_2, s185_5, s185_6, s185_7, s185_10, s185_11, s185_12, s185_13, s185_16, s185_19, s185_21, s185_22, s185_23, s185_26, s185_27, s185_28, s185_29, s185_30, s185_34, s185_35, s185_38, s185_39, s185_42, s185_44, s185_46, s185_47, s185_50, s185_53, s185_54, s185_56, s185_57, s185_61, s185_64, s185_65, s185_66, s185_67, s185_70, s185_72, s185_74, s185_75, s185_78, s185_80, s185_82, s185_87, s185_89, s185_90, s185_94, s185_95, s185_98, s185_99, s185_102, s185_104, s185_105, s185_108, s185_110, s185_111, s185_112, s185_115, s185_119, s185_120, s185_123, s185_125, s185_129, s185_130, s185_133, s185_135, ai_102 HM2, ai_95 HM2, aj_101 HM2, aj_90 HM2, gr_65_31 HM2, gr_65_43 HM2, gr_65_50 HM2, gr_65_51 HM2, gt_65 HM2, am185, isRf_ref, true_and, and_true, aPs_s, aPs_n, b01_0, b01_1, nI_clamp, ix_nI, inb_nI, lt_nI, eq_nI, nn_nI, eq0_nI, pk_mul, nI_add, lt_T, lt_F, if_true, if_false, true_and, and_true, neg1_nI, neg1_lt, neg1_neg, lt_neg1, eqN_F, eq_self,  hgT, oI_n]
    rw [s185_85]
    simp (disch := first | omega | assumption | exact gt_65 HM2 | fail) only [s185_0, s185_1, s185_2, s185_5, s185_6, s185_7, s185_10, s185_11, s185_12, s185_13, s185_16, s185_19, s185_21, s185_22, s185_23, s185_26, s185_27, s185_28, s185_29, s185_30, s185_34, s185_35, s185_38, s185_39, s185_42, s185_44, s185_46, s185_47, s185_50, s185_53, s185_54, s185_56, s185_57, s185_61, s185_64, s185_65, s185_66, s185_67, s185_70, s185_72, s185_74, s185_75, s185_78, s185_80, s185_82, s185_87, s185_89, s185_90, s185_94, s185_95, s185_98, s185_99, s185_102, s185_104, s185_105, s185_108, s185_110, s185_111, s185_112, s185_115, s185_119, s185_120, s185_123, s185_125, s185_129, s185_130, s185_133, s185_135, ai_102 HM2, ai_95 HM2, aj_101 HM2, aj_90 HM2, gr_65_31 HM2, gr_65_43 HM2, gr_65_50 HM2, gr_65_51 HM2, gt_65 HM2, am185, isRf_ref, true_and, and_true, aPs_s, aPs_n, b01_0, b01_1, nI_clamp, ix_nI, inb_nI, lt_nI, eq_nI, nn_nI, eq0_nI, pk_mul, nI_add, lt_T, lt_F, if_true, if_false, true_and, and_true, neg1_nI, neg1_lt, neg1_neg, lt_neg1, eqN_F, eq_self, ]
    refine c185_92 HM hn hX ?_
    rw [pp none]
    exact hC _ _ _
  | some b =>
    have kb := (ly_ok V (o := o) (g := L) hn (fun i hi => (B (gf b i) (hbs b rfl i hi)).2) (Nat.le_refl n)).2
    have hC2 := hC
    unfold hgB at hC2
    by_cases h5 : lyT P o bb (gf r) n < lyT P o bb (gf b) n
    · simp only [h5, if_true] at hC2
      simp (disch := first | omega | assumption | exact gt_65 HM2 | fail) only [s185_0, s185_1, s185_2, s185_5, s185_6, s185_7, s185_10, s185_11, s185_12, s185_13, s185_16, s185_19, s185_21, s185_22, s185_23, s185_26, s185_27, s185_28, s185_29, s185_30, s185_34, s185_35, s185_38, s185_39, s185_42, s185_44, s185_46, s185_47, s185_50, s185_53, s185_54, s185_56, s185_57, s185_61, s185_64, s185_65, s185_66, s185_67, s185_70, s185_72, s185_74, s185_75, s185_78, s185_80, s185_82, s185_87, s185_89, s185_90, s185_94, s185_95, s185_98, s185_99, s185_102, s185_104, s185_105, s185_108, s185_110, s185_111, s185_112, s185_115, s185_119, s185_120, s185_123, s185_125, s185_129, s185_130, s185_133, s185_135, ai_102 HM2, ai_95 HM2, aj_101 HM2, aj_90 HM2, gr_65_31 HM2, gr_65_43 HM2, gr_65_50 HM2, gr_65_51 HM2, gt_65 HM2, am185, isRf_ref, true_and, and_true, aPs_s, aPs_n, b01_0, b01_1, nI_clamp, ix_nI, inb_nI, lt_nI, eq_nI, nn_nI, eq0_nI, pk_mul, nI_add, lt_T, lt_F, if_true, if_false, true_and, and_true, neg1_nI, neg1_lt, neg1_neg, lt_neg1, eqN_F, eq_self,  hgT, oI_s, h5]
      rw [s185_85]
      simp (disch := first | omega | assumption | exact gt_65 HM2 | fail) only [s185_0, s185_1, s185_2, s185_5, s185_6, s185_7, s185_10, s185_11, s185_12, s185_13, s185_16, s185_19, s185_21, s185_22, s185_23, s185_26, s185_27, s185_28, s185_29, s185_30, s185_34, s185_35, s185_38, s185_39, s185_42, s185_44, s185_46, s185_47, s185_50, s185_53, s185_54, s185_56, s185_57, s185_61, s185_64, s185_65, s185_66, s185_67, s185_70, s185_72, s185_74, s185_75, s185_78, s185_80, s185_82, s185_87, s185_89, s185_90, s185_94, s185_95, s185_98, s185_99, s185_102, s185_104, s185_105, s185_108, s185_110, s185_111, s185_112, s185_115, s185_119, s185_120, s185_123, s185_125, s185_129, s185_130, s185_133, s185_135, ai_102 HM2, ai_95 HM2, aj_101 HM2, aj_90 HM2, gr_65_31 HM2, gr_65_43 HM2, gr_65_50 HM2, gr_65_51 HM2, gt_65 HM2, am185, isRf_ref, true_and, and_true, aPs_s, aPs_n, b01_0, b01_1, nI_clamp, ix_nI, inb_nI, lt_nI, eq_nI, nn_nI, eq0_nI, pk_mul, nI_add, lt_T, lt_F, if_true, if_false, true_and, and_true, neg1_nI, neg1_lt, neg1_neg, lt_neg1, eqN_F, eq_self, ]
      refine c185_92 HM hn hX ?_
      rw [pp (some b)]
      exact hC2 _ _ _
    · simp only [h5, if_false] at hC2
      simp (disch := first | omega | assumption | exact gt_65 HM2 | fail) only [s185_0, s185_1, s185_2, s185_5, s185_6, s185_7, s185_10, s185_11, s185_12, s185_13, s185_16, s185_19, s185_21, s185_22, s185_23, s185_26, s185_27, s185_28, s185_29, s185_30, s185_34, s185_35, s185_38, s185_39, s185_42, s185_44, s185_46, s185_47, s185_50, s185_53, s185_54, s185_56, s185_57, s185_61, s185_64, s185_65, s185_66, s185_67, s185_70, s185_72, s185_74, s185_75, s185_78, s185_80, s185_82, s185_87, s185_89, s185_90, s185_94, s185_95, s185_98, s185_99, s185_102, s185_104, s185_105, s185_108, s185_110, s185_111, s185_112, s185_115, s185_119, s185_120, s185_123, s185_125, s185_129, s185_130, s185_133, s185_135, ai_102 HM2, ai_95 HM2, aj_101 HM2, aj_90 HM2, gr_65_31 HM2, gr_65_43 HM2, gr_65_50 HM2, gr_65_51 HM2, gt_65 HM2, am185, isRf_ref, true_and, and_true, aPs_s, aPs_n, b01_0, b01_1, nI_clamp, ix_nI, inb_nI, lt_nI, eq_nI, nn_nI, eq0_nI, pk_mul, nI_add, lt_T, lt_F, if_true, if_false, true_and, and_true, neg1_nI, neg1_lt, neg1_neg, lt_neg1, eqN_F, eq_self,  hgT, oI_s, h5]
      exact hC2 _ _ _
set_option maxHeartbeats 4000000 in
theorem c185_59 (HM : KM h) {P : Nat → Nat → Int32} (hP : pv h = P) (V : okP P) {o bb : Nat → Nat} (O : ovH h P o) {s n : Nat} (hs : s < 4) (hn : n ≤ 6) (B : shH h s n bb) {l2 : Value} {C : Prop} {g : Nat → Int32} : ∀ (l : List (List Nat)) (r : List Nat) (best : Option (List Nat)) (R L : Nat → Int32) (l6 l7 : Value), (∀ b, best = some b → ∀ k, k < n → gf b k < n) → chn n (r :: l) = true → (∀ k, k < n → R k = nI (gf r k)) → (∀ R L l6 l7, aW (d + 3) 185 128 [.ref 65, .int (nI s), l2, .int (nI n), .int (oI (hgT P o bb n (hgF P o bb n best (r :: l)))), .int (nI 0), l6, l7] [] (hG h R (hgA P o bb n (hgF P o bb n best (r :: l)) g) L) Q = C) → aW (d + 3) 185 59 [.ref 65, .int (nI s), l2, .int (nI n), .int (oI (hgT P o bb n best)), .int (nI 1), l6, l7] [] (hG h R (hgA P o bb n best g) L) Q = C := by
  have nxt : ∀ (r : List Nat) (best : Option (List Nat)) (R L : Nat → Int32), (∀ k, k < n → gf r k < n) → (∀ k, k < n → R k = nI (gf r k)) → ∀ Q', aM (d + 2) 183 [.ref 65, .int (nI n)] (hG h R (hgA P o bb n best g) L) Q' = (match nxR (gf r) n with
      | none => Q' (some (.int (nI 0))) (hG h R (hgA P o bb n best g) L)
      | some f' => Q' (some (.int (nI 1))) (hG h (rowI f' R n) (hgA P o bb n best g) L)) := by
    intro r best R L hr hR Q'
    have HM2 : KM (hG h R (hgA P o bb n best g) L) := HM
    have R2 : rwH (hG h R (hgA P o bb n best g) L) n (gf r) := by
      intro i hi
      refine ⟨?_, hr i hi⟩
      rw [← hR i hi]
      rfl
    rw [c183 HM2 hn R2]
    cases nxR (gf r) n with
    | none => rfl
    | some f' =>
      simp only
      congr 1
      unfold hG
      rw [gI_ne (show 101 ≠ 102 by decide), gI_ne (show 101 ≠ 90 by decide), gI_eq, pA_comm (show 102 ≠ 101 by decide), pA_comm (show 90 ≠ 101 by decide), pA_pA]
  have hbs2 : ∀ (r : List Nat) (best : Option (List Nat)), (∀ k, k < n → gf r k < n) → (∀ b, best = some b → ∀ k, k < n → gf b k < n) → ∀ b, hgB P o bb n best r = some b → ∀ k, k < n → gf b k < n := by
    intro r best h1 h2 b hb
    unfold hgB at hb
    cases best with
    | none => cases hb; exact h1
    | some c =>
      simp only at hb
      split at hb
      · cases hb; exact h1
      · cases hb; exact h2 b rfl
  intro l
  induction l with
  | nil =>
    intro r best R L l6 l7 hbs hch hR hC
    obtain ⟨q1, q2⟩ := chn_row hch
    refine c185_r HM hP V O hs hn B r best R L l6 l7 hbs q1 hR (fun L l6 l7 => ?_)
    have HM2 : KM (hG h R (hgA P o bb n (hgB P o bb n best r) g) L) := HM
    have nx : ∀ Q', aM (d + 2) 183 [.ref 65, .int (nI n)] (hG h R (hgA P o bb n (hgB P o bb n best r) g) L) Q' = Q' (some (.int (nI 0))) (hG h R (hgA P o bb n (hgB P o bb n best r) g) L) := by
      intro Q'
      rw [nxt r _ R L (fun k hk => (q1 k hk).1) hR, q2]
    rw [s185_118]
    simp (disch := first | omega | assumption | exact gt_65 HM2 | fail) only [s185_0, s185_1, s185_2, s185_5, s185_6, s185_7, s185_10, s185_11, s185_12, s185_13, s185_16, s185_19, s185_21, s185_22, s185_23, s185_26, s185_27, s185_28, s185_29, s185_30, s185_34, s185_35, s185_38, s185_39, s185_42, s185_44, s185_46, s185_47, s185_50, s185_53, s185_54, s185_56, s185_57, s185_61, s185_64, s185_65, s185_66, s185_67, s185_70, s185_72, s185_74, s185_75, s185_78, s185_80, s185_82, s185_87, s185_89, s185_90, s185_94, s185_95, s185_98, s185_99, s185_102, s185_104, s185_105, s185_108, s185_110, s185_111, s185_112, s185_115, s185_119, s185_120, s185_123, s185_125, s185_129, s185_130, s185_133, s185_135, ai_102 HM2, ai_95 HM2, aj_101 HM2, aj_90 HM2, gr_65_31 HM2, gr_65_43 HM2, gr_65_50 HM2, gr_65_51 HM2, gt_65 HM2, am185, isRf_ref, true_and, and_true, aPs_s, aPs_n, b01_0, b01_1, nI_clamp, ix_nI, inb_nI, lt_nI, eq_nI, nn_nI, eq0_nI, pk_mul, nI_add, lt_T, lt_F, if_true, if_false, true_and, and_true, neg1_nI, neg1_lt, neg1_neg, lt_neg1, eqN_F, eq_self,  nx]
    rw [s185_59]
    simp (disch := first | omega | assumption | exact gt_65 HM2 | fail) only [s185_0, s185_1, s185_2, s185_5, s185_6, s185_7, s185_10, s185_11, s185_12, s185_13, s185_16, s185_19, s185_21, s185_22, s185_23, s185_26, s185_27, s185_28, s185_29, s185_30, s185_34, s185_35, s185_38, s185_39, s185_42, s185_44, s185_46, s185_47, s185_50, s185_53, s185_54, s185_56, s185_57, s185_61, s185_64, s185_65, s185_66, s185_67, s185_70, s185_72, s185_74, s185_75, s185_78, s185_80, s185_82, s185_87, s185_89, s185_90, s185_94, s185_95, s185_98, s185_99, s185_102, s185_104, s185_105, s185_108, s185_110, s185_111, s185_112, s185_115, s185_119, s185_120, s185_123, s185_125, s185_129, s185_130, s185_133, s185_135, ai_102 HM2, ai_95 HM2, aj_101 HM2, aj_90 HM2, gr_65_31 HM2, gr_65_43 HM2, gr_65_50 HM2, gr_65_51 HM2, gt_65 HM2, am185, isRf_ref, true_and, and_true, aPs_s, aPs_n, b01_0, b01_1, nI_clamp, ix_nI, inb_nI, lt_nI, eq_nI, nn_nI, eq0_nI, pk_mul, nI_add, lt_T, lt_F, if_true, if_false, true_and, and_true, neg1_nI, neg1_lt, neg1_neg, lt_neg1, eqN_F, eq_self, ]
    exact hC _ _ _ _
  | cons r' l ih =>
    intro r best R L l6 l7 hbs hch hR hC
    obtain ⟨q1, ⟨f', q2, q3⟩, q4⟩ := chn_row hch
    refine c185_r HM hP V O hs hn B r best R L l6 l7 hbs q1 hR (fun L l6 l7 => ?_)
    have HM2 : KM (hG h R (hgA P o bb n (hgB P o bb n best r) g) L) := HM
    have nx : ∀ Q', aM (d + 2) 183 [.ref 65, .int (nI n)] (hG h R (hgA P o bb n (hgB P o bb n best r) g) L) Q' = Q' (some (.int (nI 1))) (hG h (rowI f' R n) (hgA P o bb n (hgB P o bb n best r) g) L) := by
      intro Q'
      rw [nxt r _ R L (fun k hk => (q1 k hk).1) hR, q2]
    rw [s185_118]
    simp (disch := first | omega | assumption | exact gt_65 HM2 | fail) only [s185_0, s185_1, s185_2, s185_5, s185_6, s185_7, s185_10, s185_11, s185_12, s185_13, s185_16, s185_19, s185_21, s185_22, s185_23, s185_26, s185_27, s185_28, s185_29, s185_30, s185_34, s185_35, s185_38, s185_39, s185_42, s185_44, s185_46, s185_47, s185_50, s185_53, s185_54, s185_56, s185_57, s185_61, s185_64, s185_65, s185_66, s185_67, s185_70, s185_72, s185_74, s185_75, s185_78, s185_80, s185_82, s185_87, s185_89, s185_90, s185_94, s185_95, s185_98, s185_99, s185_102, s185_104, s185_105, s185_108, s185_110, s185_111, s185_112, s185_115, s185_119, s185_120, s185_123, s185_125, s185_129, s185_130, s185_133, s185_135, ai_102 HM2, ai_95 HM2, aj_101 HM2, aj_90 HM2, gr_65_31 HM2, gr_65_43 HM2, gr_65_50 HM2, gr_65_51 HM2, gt_65 HM2, am185, isRf_ref, true_and, and_true, aPs_s, aPs_n, b01_0, b01_1, nI_clamp, ix_nI, inb_nI, lt_nI, eq_nI, nn_nI, eq0_nI, pk_mul, nI_add, lt_T, lt_F, if_true, if_false, true_and, and_true, neg1_nI, neg1_lt, neg1_neg, lt_neg1, eqN_F, eq_self,  nx]
    refine ih r' _ _ L _ _ (hbs2 r best (fun k hk => (q1 k hk).1) hbs) q4 (fun k hk => ?_) hC
    unfold rowI
    rw [if_pos hk, q3 k hk]
end M17
