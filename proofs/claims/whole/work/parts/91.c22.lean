/-! THE CLASS: Reader, the bytes of a word -/
def bytC (w : Int64) (i : Nat) : Int32 := (w.toUInt64 >>> ((nI (8 * i)).toInt64.toUInt64 &&& Int64.toUInt64 63)).toInt64.toInt32 &&& nI 255
theorem sh_64 {i : Nat} (hi : i < 8) : ((nI (8 * i)).toInt64 &&& 63).toBitVec.smod 64 = BitVec.ofNat 64 (8 * i) ∧ ((nI (8 * i)).toInt64.toUInt64 &&& Int64.toUInt64 63).toBitVec % 64 = BitVec.ofNat 64 (8 * i) := by
  rcases (show i = 0 ∨ i = 1 ∨ i = 2 ∨ i = 3 ∨ i = 4 ∨ i = 5 ∨ i = 6 ∨ i = 7 by omega) with rfl | rfl | rfl | rfl | rfl | rfl | rfl | rfl <;> exact ⟨by decide +kernel, by decide +kernel⟩
theorem byt_g {w : Int64} {i : Nat} (hi : i < 8) {j : Nat} (hj : j < 32) : (byt w i).toBitVec.getLsbD j = (w.toBitVec.getLsbD (8 * i + j) && decide (j < 8)) := by
  unfold byt
  have c : (255 : Int64).toBitVec.getLsbD j = decide (j < 8) := by
    have : (255 : Int64).toBitVec = 255#64 := by decide
    rw [this]
    have : ∀ j, j < 32 → (255#64).getLsbD j = decide (j < 8) := by decide
    exact this j hj
  rw [Int64.toBitVec_toInt32, Int64.toBitVec_and, Int64.toBitVec_shiftRight, (sh_64 hi).1, BitVec.signExtend_eq_setWidth_of_le _ (by decide), BitVec.getLsbD_setWidth, BitVec.getLsbD_and, c]
  unfold BitVec.sshiftRight'
  rw [BitVec.getLsbD_sshiftRight, BitVec.toNat_ofNat, Nat.mod_eq_of_lt (by omega)]
  by_cases h8 : j < 8
  · rw [if_pos (by omega)]
    simp [h8, hj, show ¬ 64 ≤ j by omega]
  · simp [h8]
theorem bytC_g {w : Int64} {i : Nat} (hi : i < 8) {j : Nat} (hj : j < 32) : (bytC w i).toBitVec.getLsbD j = (w.toBitVec.getLsbD (8 * i + j) && decide (j < 8)) := by
  unfold bytC
  have c : (nI 255).toBitVec.getLsbD j = decide (j < 8) := by
    have : (nI 255).toBitVec = 255#32 := by decide
    rw [this]
    have : ∀ j, j < 32 → (255#32).getLsbD j = decide (j < 8) := by decide
    exact this j hj
  rw [Int32.toBitVec_and, BitVec.getLsbD_and, c, Int64.toBitVec_toInt32, UInt64.toBitVec_toInt64, UInt64.toBitVec_shiftRight, (sh_64 hi).2, BitVec.signExtend_eq_setWidth_of_le _ (by decide), BitVec.getLsbD_setWidth, BitVec.ushiftRight_eq', BitVec.getLsbD_ushiftRight, BitVec.toNat_ofNat, Nat.mod_eq_of_lt (by omega), Int64.toBitVec_toUInt64]
  simp [hj]
theorem byt_C {w : Int64} {i : Nat} (hi : i < 8) : bytC w i = byt w i := by
  apply Int32.toBitVec_inj.mp
  apply BitVec.eq_of_getLsbD_eq
  intro j hj
  rw [bytC_g hi hj, byt_g hi hj]
theorem byt_lt {w : Int64} {i : Nat} (hi : i < 8) : ∃ c, c < 256 ∧ byt w i = nI c := by
  have hlt : (byt w i).toBitVec.toNat < 256 := by
    apply Nat.lt_pow_two_of_testBit (n := 8)
    intro j hj
    show (byt w i).toBitVec.getLsbD j = false
    by_cases h : j < 32
    · rw [byt_g hi h]
      simp
      omega
    · exact BitVec.getLsbD_of_ge _ _ (by omega)
  refine ⟨(byt w i).toBitVec.toNat, hlt, ?_⟩
  apply Int32.toBitVec_inj.mp
  show _ = BitVec.ofNat 32 (byt w i).toBitVec.toNat
  simp
def apH (h : abH) (T : Nat) (w : Int64) (n t : Nat) : abH := pA (pA h 4 (fdX (gI h 4) T w n t)) 3 (upd (gI h 3) 1 (nI (T + t)))
section C22
variable {d : Nat} {h : abH} {Q : Option Value → abH → Prop}
set_option maxHeartbeats 4000000 in
theorem c56 (H : KC h) {T n : Nat} (hT : gI h 3 1 = nI T) (hn : T + n ≤ 240) (hn8 : n ≤ 8) {w : Int64} (hn1 : 0 < n) : aM d 56 [.ref 3, .long w, .int (nI n)] h Q = Q none (apH h T w n n) := by
  have loop := for_0 (F := fun t => aW d 56 5 [.ref 3, .long w, .retAddr 1, .int (nI n), .int (ivD (n - t))] [] (apH h T w n t) Q) (R := Q none (apH h T w n n)) n (by
    have H2 : KC (apH h T w n n) := H
    rw [s56_5, Nat.sub_self]
    simp (disch := first | omega | assumption | exact gt_3 H2 | (simp only [gT_pA, gT_pI, gT_pR]; first | assumption | exact gt_3 H2) | fail) only [s56_0, s56_1, s56_2, s56_3, s56_7, s56_10, s56_11, s56_14, s56_15, s56_18, s56_19, s56_21, s56_23, s56_24, s56_25, s56_26, s56_29, s56_30, s56_31, s56_32, s56_33, s56_36, s56_37, s56_38, s56_41, s56_44, s56_47, aj_4 H2, gr_3_0 H2, gt_3 H2, am56, isRf_ref, true_and, and_true, aPs_s, aPs_n, b01_0, b01_1, nI_clamp, ix_nI, inb_nI, lt_nI, eq_nI, nn_nI, eq0_nI, pk_mul, nI_add, lt_T, lt_F, if_true, if_false, true_and, and_true, neg1_nI, neg1_lt, neg1_neg, lt_neg1, eqN_F, eq_self,  ivD, iflt_m1]) (fun t ht => by
    have H2 : KC (apH h T w n t) := H
    have e1 : gI (apH h T w n t) 3 1 = nI (T + t) := by unfold apH; rw [gI_eq, upd_eq]
    have H3 : KC (pI (apH h T w n t) 4 (T + t) (byt w (n - 1 - t))) := H
    have t3 := gt_3 H3
    have e2 : gI (pI (apH h T w n t) 4 (T + t) (byt w (n - 1 - t))) 3 1 = nI (T + t) := e1
    have i1 : ivD (n - t) = nI (n - 1 - t) := by rw [show n - t = (n - 1 - t) + 1 by omega]; rfl
    have i2 : nI (n - 1 - t) + (-1) = ivD (n - (t + 1)) := by
      rw [show n - (t + 1) = n - 1 - t by omega]
      cases hq : n - 1 - t with
      | zero => exact iinc_m0
      | succ j => exact iinc_m1 (by omega)
    have eb : ((w.toUInt64 >>> ((nI (8 * (n - 1 - t))).toInt64.toUInt64 &&& Int64.toUInt64 63)).toInt64.toInt32 &&& nI 255) = byt w (n - 1 - t) := byt_C (by omega)
    have up : pI (pI (apH h T w n t) 4 (T + t) (byt w (n - 1 - t))) 3 1 (nI (T + t + 1)) = apH h T w n (t + 1) := by
      unfold apH
      rw [show T + t + 1 = T + (t + 1) by omega]
      simp only [pI_def, gI_eq, gI_ne (show (4 : Nat) ≠ 3 by decide), gI_ne (show (3 : Nat) ≠ 4 by decide), pA_comm (show (3 : Nat) ≠ 4 by decide), pA_pA, upd_upd, fdX_up]
    rw [s56_5, i1]
    simp (disch := first | omega | assumption | exact gt_3 H2 | (simp only [gT_pA, gT_pI, gT_pR]; first | assumption | exact gt_3 H2) | fail) only [s56_0, s56_1, s56_2, s56_3, s56_7, s56_10, s56_11, s56_14, s56_15, s56_18, s56_19, s56_21, s56_23, s56_24, s56_25, s56_26, s56_29, s56_30, s56_31, s56_32, s56_33, s56_36, s56_37, s56_38, s56_41, s56_44, s56_47, aj_4 H2, gr_3_0 H2, gt_3 H2, am56, isRf_ref, true_and, and_true, aPs_s, aPs_n, b01_0, b01_1, nI_clamp, ix_nI, inb_nI, lt_nI, eq_nI, nn_nI, eq0_nI, pk_mul, nI_add, lt_T, lt_F, if_true, if_false, true_and, and_true, neg1_nI, neg1_lt, neg1_neg, lt_neg1, eqN_F, eq_self,  nn_nI, e1, eb, e2, t3, up, i2])
  have e0 : apH h T w n 0 = h := by
    unfold apH
    rw [fdX_0, pA_self, Nat.add_zero, ← hT]
    exact pI_self (h := h) (o := 3) (k := 1)
  have i0 : ivD (n - 0) = nI (n - 1) := by rw [show n - 0 = (n - 1) + 1 by omega]; rfl
  rw [e0, i0] at loop
  have e5 : nI n - nI 1 = nI (n - 1) := pk_sub (by omega)
  simp (disch := first | omega | assumption | exact gt_3 H | (simp only [gT_pA, gT_pI, gT_pR]; first | assumption | exact gt_3 H) | fail) only [s56_0, s56_1, s56_2, s56_3, s56_7, s56_10, s56_11, s56_14, s56_15, s56_18, s56_19, s56_21, s56_23, s56_24, s56_25, s56_26, s56_29, s56_30, s56_31, s56_32, s56_33, s56_36, s56_37, s56_38, s56_41, s56_44, s56_47, aj_4 H, gr_3_0 H, gt_3 H, am56, isRf_ref, true_and, and_true, aPs_s, aPs_n, b01_0, b01_1, nI_clamp, ix_nI, inb_nI, lt_nI, eq_nI, nn_nI, eq0_nI, pk_mul, nI_add, lt_T, lt_F, if_true, if_false, true_and, and_true, neg1_nI, neg1_lt, neg1_neg, lt_neg1, eqN_F, eq_self,  e5]
  exact loop
end C22
