/-! THE REFERENCE'S PROGRAM: lives -/
theorem pA_sw {h : abH} {o o2 : Nat} {f g : Nat → Int32} (hn : o2 < o) : pA (pA h o f) o2 g = pA (pA h o2 g) o f := pA_comm (by omega)
theorem gI_eq {h : abH} {o : Nat} {f : Nat → Int32} : gI (pA h o f) o = f := by rw [gI_pA, if_pos rfl]
theorem gI_ne {h : abH} {o o' : Nat} {f : Nat → Int32} (hn : o' ≠ o) : gI (pA h o f) o' = gI h o' := by rw [gI_pA, if_neg hn]
theorem upd_upd {f : Nat → Int32} {k : Nat} {v w : Int32} : upd (upd f k v) k w = upd f k w := by
  funext j
  unfold upd
  by_cases h : j = k <;> simp [h]
theorem upd_eq {f : Nat → Int32} {k : Nat} {v : Int32} : upd f k v k = v := by simp [upd]
theorem upd_ne {f : Nat → Int32} {k j : Nat} {v : Int32} (h : j ≠ k) : upd f k v j = f j := by simp [upd, h]
/-- from where and till where a BUFFER is ALIVE, by the first places of an ORDER -/
def lf (P : Nat → Nat → Int32) (o : Nat → Nat) (b : Nat) : Nat → Nat × Option Nat
  | 0 => (0, none)
  | k + 1 => (if nWt P (o k) = b then k else (lf P o b k).1, if (mRdB P (o k) b || (P 72 b != 0 && k + 1 == nS P)) = true then some k else if nWt P (o k) = b then some k else (lf P o b k).2)
def lfE (P : Nat → Nat → Int32) (o : Nat → Nat) (b : Nat) : Nat × Option Nat := if P 68 b = 0 then (0, none) else lf P o b (nS P)
theorem lf_lt {P : Nat → Nat → Int32} {o : Nat → Nat} {b : Nat} : ∀ {n : Nat}, (lf P o b n).1 ≤ n ∧ ∀ j, (lf P o b n).2 = some j → j < n := by
  intro n
  induction n with
  | zero => exact ⟨Nat.le_refl _, fun j h => by cases h⟩
  | succ n ih =>
    rw [lf]
    constructor
    · simp only
      split
      · omega
      · have := ih.1; omega
    · intro j hj
      simp only at hj
      split at hj
      · cases hj; omega
      · split at hj
        · cases hj; omega
        · have := ih.2 j hj; omega
theorem oI_lt {t : Option Nat} {k : Nat} (ht : ∀ j, t = some j → j < k) (hk : k < 2 ^ 31) : (oI t < nI k) = True := by
  cases t with
  | none => exact neg1_lt hk
  | some j =>
    have := ht j rfl
    rw [oI, lt_nI (by omega) hk]
    exact eq_true this
theorem vS {h : abH} (V : okP (pv h)) : nS (pv h) ≤ 10 ∧ gI h 65 4 = nI (nS (pv h)) := V.s
theorem vK {h : abH} (V : okP (pv h)) {s : Nat} (hs : s < nS (pv h)) : gI h 73 s = nI (ix (pv h 73 s)) ∧ ix (pv h 73 s) < 6 := V.k hs
theorem vW {h : abH} (V : okP (pv h)) {s : Nat} (hs : s < nS (pv h)) : gI h 75 s = nI (nWt (pv h) s) ∧ nWt (pv h) s < 12 := V.w hs
theorem vC {h : abH} (V : okP (pv h)) {s : Nat} (hs : s < nS (pv h)) : gI h 76 s = nI (nRc (pv h) s) ∧ nRc (pv h) s ≤ 4 := V.c hs
theorem vR {h : abH} (V : okP (pv h)) {s k : Nat} (hs : s < nS (pv h)) (hk : k < nRc (pv h) s) : gI h 77 (4 * s + k) = nI (nRd (pv h) s k) ∧ nRd (pv h) s k < 12 := V.r hs hk
/-! the same at any heap of one program -/
theorem hS {h : abH} {P : Nat → Nat → Int32} (hP : pv h = P) (V : okP P) : gI h 65 4 = nI (nS P) := by subst hP; exact V.s.2
theorem hK {h : abH} {P : Nat → Nat → Int32} (hP : pv h = P) (V : okP P) {s : Nat} (hs : s < nS P) : gI h 73 s = nI (ix (P 73 s)) := by subst hP; exact (V.k hs).1
theorem hW {h : abH} {P : Nat → Nat → Int32} (hP : pv h = P) (V : okP P) {s : Nat} (hs : s < nS P) : gI h 75 s = nI (nWt P s) := by subst hP; exact (V.w hs).1
theorem hC {h : abH} {P : Nat → Nat → Int32} (hP : pv h = P) (V : okP P) {s : Nat} (hs : s < nS P) : gI h 76 s = nI (nRc P s) := by subst hP; exact (V.c hs).1
theorem hR {h : abH} {P : Nat → Nat → Int32} (hP : pv h = P) (V : okP P) {s k : Nat} (hs : s < nS P) (hk : k < nRc P s) : gI h 77 (4 * s + k) = nI (nRd P s k) := by subst hP; exact (V.r hs hk).1
section M3
variable {d : Nat} {h : abH} {Q : Option Value → abH → Prop}
set_option maxHeartbeats 4000000 in
theorem c164 (HM : KM h) {P : Nat → Nat → Int32} (hP : pv h = P) {b : Nat} (hb : b < 12) (V : okP P) {o : Nat → Nat} (ho : ∀ k, k < nS P → gI h 97 k = nI (o k) ∧ o k < nS P) : aM (d + 1) 164 [.ref 65, .int (nI b)] h Q = Q none (pA (pA h 98 (upd (gI h 98) b (nI (lfE P o b).1))) 99 (upd (gI h 99) b (oI (lfE P o b).2))) := by
  subst hP
  obtain ⟨s10, e10⟩ := vS V
  have t65 := gt_65 HM
  have hpv : ∀ A B, pv (pA (pA h 98 A) 99 B) = pv h := fun A B => by rw [pv_pA (by omega), pv_pA (by omega)]
  by_cases h68 : gI h 68 b = 0
  · have e : lfE (pv h) o b = (0, none) := if_pos h68
    simp (disch := first | omega | assumption | (simp only [gT_pA, gT_pR, aI_pA, aI_pR]; assumption)) only [s164_0, s164_1, s164_4, s164_5, s164_6, s164_7, s164_8, s164_11, s164_12, s164_13, s164_14, s164_15, s164_16, s164_17, s164_18, s164_21, s164_24, s164_25, s164_28, s164_29, s164_30, s164_33, s164_34, s164_37, s164_38, s164_41, s164_42, s164_43, s164_44, s164_45, s164_48, s164_49, s164_52, s164_53, s164_54, s164_55, s164_56, s164_59, s164_60, s164_61, s164_62, s164_65, s164_66, s164_67, s164_70, s164_71, s164_74, s164_75, s164_78, s164_79, s164_80, s164_81, s164_82, s164_83, s164_86, s164_87, s164_88, s164_89, s164_92, s164_95, s164_96, s164_99, s164_100, s164_101, s164_104, s164_105, s164_106, s164_109, s164_110, s164_111, s164_114, s164_115, s164_118, s164_119, s164_120, s164_121, s164_124, s164_127, ai_75 HM, ai_97 HM, ai_99 HM, aj_98 HM, aj_99 HM, az_68 HM, az_72 HM, gr_65_12 HM, gr_65_46 HM, gr_65_47 HM, gr_65_48 HM, gr_65_5 HM, gr_65_9 HM, gt_65 HM, am164, isRf_ref, true_and, and_true, aPs_s, aPs_n, b01_0, b01_1, pI_def, pA_pA, gI_eq, gI_ne, upd_upd, upd_eq, gT_pA, gR_pA, aI_pA, aJ_pA, aZ_pA, gT_pR, gR_pR, aI_pR, aJ_pR, aZ_pR, gI_pR, pA_sw (o := 99) (o2 := 98) (by decide), nI_clamp, ix_nI, inb_nI, lt_nI, eq_nI, nn_nI, eq0_nI, pk_mul, nI_add, lt_T, lt_F, if_true, if_false, true_and, and_true, neg1_nI, neg1_lt, neg1_neg, lt_neg1, eqN_F, eq_self, e10, e, oI, h68]
    split <;> rfl
  · have e : lfE (pv h) o b = lf (pv h) o b (nS (pv h)) := if_neg h68
    have loop := for_0 (F := fun k => aW (d + 1) 164 16 [.ref 65, .int (nI b), .int (nI k)] [] (pA (pA h 98 (upd (gI h 98) b (nI (lf (pv h) o b k).1))) 99 (upd (gI h 99) b (oI (lf (pv h) o b k).2))) Q) (R := Q none (pA (pA h 98 (upd (gI h 98) b (nI (lf (pv h) o b (nS (pv h))).1))) 99 (upd (gI h 99) b (oI (lf (pv h) o b (nS (pv h))).2)))) (nS (pv h)) (by
      rw [s164_16]
      simp (disch := first | omega | assumption | (simp only [gT_pA, gT_pR, aI_pA, aI_pR]; assumption)) only [s164_0, s164_1, s164_4, s164_5, s164_6, s164_7, s164_8, s164_11, s164_12, s164_13, s164_14, s164_15, s164_17, s164_18, s164_21, s164_24, s164_25, s164_28, s164_29, s164_30, s164_33, s164_34, s164_37, s164_38, s164_41, s164_42, s164_43, s164_44, s164_45, s164_48, s164_49, s164_52, s164_53, s164_54, s164_55, s164_56, s164_59, s164_60, s164_61, s164_62, s164_65, s164_66, s164_67, s164_70, s164_71, s164_74, s164_75, s164_78, s164_79, s164_80, s164_81, s164_82, s164_83, s164_86, s164_87, s164_88, s164_89, s164_92, s164_95, s164_96, s164_99, s164_100, s164_101, s164_104, s164_105, s164_106, s164_109, s164_110, s164_111, s164_114, s164_115, s164_118, s164_119, s164_120, s164_121, s164_124, s164_127, ai_75 HM, ai_97 HM, ai_99 HM, aj_98 HM, aj_99 HM, az_68 HM, az_72 HM, gr_65_12 HM, gr_65_46 HM, gr_65_47 HM, gr_65_48 HM, gr_65_5 HM, gr_65_9 HM, gt_65 HM, am164, isRf_ref, true_and, and_true, aPs_s, aPs_n, b01_0, b01_1, pI_def, pA_pA, gI_eq, gI_ne, upd_upd, upd_eq, gT_pA, gR_pA, aI_pA, aJ_pA, aZ_pA, gT_pR, gR_pR, aI_pR, aJ_pR, aZ_pR, gI_pR, pA_sw (o := 99) (o2 := 98) (by decide), nI_clamp, ix_nI, inb_nI, lt_nI, eq_nI, nn_nI, eq0_nI, pk_mul, nI_add, lt_T, lt_F, if_true, if_false, true_and, and_true, neg1_nI, neg1_lt, neg1_neg, lt_neg1, eqN_F, eq_self, e10]) (fun k hk => by
      obtain ⟨o1, o2⟩ := ho k hk
      obtain ⟨w1, w2⟩ := vW V o2
      have hc : ∀ (A B : Nat → Int32) (Q' : Option Value → abH → Prop), aM d 160 [.ref 65, .int (nI (o k)), .int (nI b)] (pA (pA h 98 A) 99 B) Q' = Q' (some (.int (zB (mRdB (pv h) (o k) b)))) (pA (pA h 98 A) 99 B) := fun A B Q' => c160 (h := pA (pA h 98 A) 99 B) HM (hpv A B) o2 V
      have hlt := oI_lt (lf_lt (P := pv h) (o := o) (b := b) (n := k)).2 (show k < 2 ^ 31 by omega)
      rw [s164_16]
      simp (disch := first | omega | assumption | (simp only [gT_pA, gT_pR, aI_pA, aI_pR]; assumption)) only [s164_0, s164_1, s164_4, s164_5, s164_6, s164_7, s164_8, s164_11, s164_12, s164_13, s164_14, s164_15, s164_17, s164_18, s164_21, s164_24, s164_25, s164_28, s164_29, s164_30, s164_33, s164_34, s164_37, s164_38, s164_41, s164_42, s164_43, s164_44, s164_45, s164_48, s164_49, s164_52, s164_53, s164_54, s164_55, s164_56, s164_59, s164_60, s164_61, s164_62, s164_65, s164_66, s164_67, s164_70, s164_71, s164_74, s164_75, s164_78, s164_79, s164_80, s164_81, s164_82, s164_83, s164_86, s164_87, s164_88, s164_89, s164_92, s164_95, s164_96, s164_99, s164_100, s164_101, s164_104, s164_105, s164_106, s164_109, s164_110, s164_111, s164_114, s164_115, s164_118, s164_119, s164_120, s164_121, s164_124, s164_127, ai_75 HM, ai_97 HM, ai_99 HM, aj_98 HM, aj_99 HM, az_68 HM, az_72 HM, gr_65_12 HM, gr_65_46 HM, gr_65_47 HM, gr_65_48 HM, gr_65_5 HM, gr_65_9 HM, gt_65 HM, am164, isRf_ref, true_and, and_true, aPs_s, aPs_n, b01_0, b01_1, pI_def, pA_pA, gI_eq, gI_ne, upd_upd, upd_eq, gT_pA, gR_pA, aI_pA, aJ_pA, aZ_pA, gT_pR, gR_pR, aI_pR, aJ_pR, aZ_pR, gI_pR, pA_sw (o := 99) (o2 := 98) (by decide), nI_clamp, ix_nI, inb_nI, lt_nI, eq_nI, nn_nI, eq0_nI, pk_mul, nI_add, lt_T, lt_F, if_true, if_false, true_and, and_true, neg1_nI, neg1_lt, neg1_neg, lt_neg1, eqN_F, eq_self, e10, o1, w1, hc, h68, hlt, zB_0, pk_sub]
      have h5 : (k = nS (pv h) - 1) = ((k + 1 == nS (pv h)) = true) := by
        rw [beq_iff_eq]
        apply propext
        omega
      have h6 : (gI h 72 b = 0) = ((pv h 72 b != 0) = false) := by
        rw [pv_72]
        simp
      simp only [lf, h5, h6]
      rcases Bool.eq_false_or_eq_true (mRdB (pv h) (o k) b) with h1 | h1 <;> rcases Bool.eq_false_or_eq_true (pv h 72 b != 0) with h3 | h3 <;> rcases Bool.eq_false_or_eq_true (k + 1 == nS (pv h)) with h4 | h4 <;> by_cases h2 : nWt (pv h) (o k) = b <;> simp only [h1, h2, h3, h4, oI, Bool.not_false, Bool.not_true, Bool.true_and, Bool.false_and, Bool.and_true, Bool.and_false, Bool.or_true, Bool.or_false, Bool.true_or, Bool.false_or, Bool.true_eq_false, Bool.false_eq_true, if_true, if_false, Option.isSome_some, Option.isSome_none, Option.isNone_some, Option.isNone_none, zB_t, zB_f, nI1_0, nI0_0])
    simp (disch := first | omega | assumption | (simp only [gT_pA, gT_pR, aI_pA, aI_pR]; assumption)) only [s164_0, s164_1, s164_4, s164_5, s164_6, s164_7, s164_8, s164_11, s164_12, s164_13, s164_14, s164_15, s164_17, s164_18, s164_21, s164_24, s164_25, s164_28, s164_29, s164_30, s164_33, s164_34, s164_37, s164_38, s164_41, s164_42, s164_43, s164_44, s164_45, s164_48, s164_49, s164_52, s164_53, s164_54, s164_55, s164_56, s164_59, s164_60, s164_61, s164_62, s164_65, s164_66, s164_67, s164_70, s164_71, s164_74, s164_75, s164_78, s164_79, s164_80, s164_81, s164_82, s164_83, s164_86, s164_87, s164_88, s164_89, s164_92, s164_95, s164_96, s164_99, s164_100, s164_101, s164_104, s164_105, s164_106, s164_109, s164_110, s164_111, s164_114, s164_115, s164_118, s164_119, s164_120, s164_121, s164_124, s164_127, ai_75 HM, ai_97 HM, ai_99 HM, aj_98 HM, aj_99 HM, az_68 HM, az_72 HM, gr_65_12 HM, gr_65_46 HM, gr_65_47 HM, gr_65_48 HM, gr_65_5 HM, gr_65_9 HM, gt_65 HM, am164, isRf_ref, true_and, and_true, aPs_s, aPs_n, b01_0, b01_1, pI_def, pA_pA, gI_eq, gI_ne, upd_upd, upd_eq, gT_pA, gR_pA, aI_pA, aJ_pA, aZ_pA, gT_pR, gR_pR, aI_pR, aJ_pR, aZ_pR, gI_pR, pA_sw (o := 99) (o2 := 98) (by decide), nI_clamp, ix_nI, inb_nI, lt_nI, eq_nI, nn_nI, eq0_nI, pk_mul, nI_add, lt_T, lt_F, if_true, if_false, true_and, and_true, neg1_nI, neg1_lt, neg1_neg, lt_neg1, eqN_F, eq_self]
    rw [e]
    exact loop
end M3
