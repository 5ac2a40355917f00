/-! THE REFERENCE'S METHODS: small ones -/
section M1
variable {d : Nat} {h : abH} {Q : Option Value → abH → Prop}
theorem c139 {v lo hi : Int32} : aM d 139 [.int v, .int lo, .int hi] h Q = Q (some (.int (b2i (¬ v < lo ∧ ¬ hi < v)))) h := by
  simp only [s139_0, s139_1, s139_2, s139_5, s139_6, s139_7, s139_10, s139_11, s139_14, s139_15, am139, isRf_ref, true_and, and_true, aPs_s, aPs_n, b01_0, b01_1]
  by_cases h1 : v < lo <;> by_cases h2 : hi < v <;> simp [h1, h2, b2i]
/-- SIZE of a BUFFER by its TERMS -/
def mSz (I : Nat → Nat → Int32) (b : Nat) : Nat → Int32
  | 0 => nI 0
  | k + 1 => mSz I b k + I 70 (4 * b + k) * (if I 71 (4 * b + k) = -1 then nI 1 else I 67 (ix (I 71 (4 * b + k))))
def mSize (I : Nat → Nat → Int32) (b : Nat) : Int32 := mSz I b (ix (I 69 b))
/-- TERMS are told well -/
def okT (I : Nat → Nat → Int32) (b : Nat) : Prop := bn (I 69 b) 5 ∧ ∀ k, k < ix (I 69 b) → I 71 (4 * b + k) = -1 ∨ bn (I 71 (4 * b + k)) 4
theorem bn_of {x : Int32} {n : Nat} (h : bn x n) : ∃ j, j < n ∧ x = nI j := ⟨ix x, h.2, h.1⟩
theorem ix_nI {j : Nat} (h : j < 2 ^ 31) : ix (nI j) = j := nI_clamp h
set_option maxHeartbeats 4000000 in
theorem c154 (HM : KM h) {b : Nat} (hb : b < 12) (V : okT (gI h) b) : aM d 154 [.ref 65, .int (nI b)] h Q = Q (some (.int (mSize (gI h) b))) h := by
  obtain ⟨V1, V⟩ := V
  obtain ⟨T, hT, eT⟩ := bn_of V1
  have eT2 : ix (gI h 69 b) = T := by rw [eT, ix_nI (by omega)]
  rw [eT2] at V
  unfold mSize
  rw [eT2]
  have loop := for_s (σ := Value) (F := fun k l4 => aW d 154 4 [.ref 65, .int (nI b), .int (mSz (gI h) b k), .int (nI k), l4] [] h Q) (R := Q (some (.int (mSz (gI h) b T))) h) T (fun l4 => by
    rw [s154_4]
    simp only [s154_0, s154_1, s154_2, s154_3, s154_5, s154_6, s154_9, s154_10, s154_11, s154_14, s154_15, s154_18, s154_19, s154_20, s154_21, s154_22, s154_23, s154_24, s154_26, s154_27, s154_28, s154_31, s154_32, s154_33, s154_34, s154_35, s154_36, s154_37, s154_39, s154_40, s154_43, s154_44, s154_47, s154_48, s154_51, s154_53, s154_56, s154_57, s154_60, s154_62, s154_63, s154_64, s154_65, s154_66, s154_69, s154_72, s154_73, ai_67 HM, ai_69 HM, ai_70 HM, ai_71 HM, gr_65_3 HM, gr_65_6 HM, gr_65_7 HM, gr_65_8 HM, gt_65 HM, am154, isRf_ref, true_and, and_true, aPs_s, aPs_n, b01_0, b01_1]
    simp (disch := omega) only [nI_clamp, inb_nI, hb, eT, lt_nI, Nat.lt_irrefl, if_false, true_and]) (fun k hk l4 => by
    rw [s154_4]
    simp only [s154_0, s154_1, s154_2, s154_3, s154_5, s154_6, s154_9, s154_10, s154_11, s154_14, s154_15, s154_18, s154_19, s154_20, s154_21, s154_22, s154_23, s154_24, s154_26, s154_27, s154_28, s154_31, s154_32, s154_33, s154_34, s154_35, s154_36, s154_37, s154_39, s154_40, s154_43, s154_44, s154_47, s154_48, s154_51, s154_53, s154_56, s154_57, s154_60, s154_62, s154_63, s154_64, s154_65, s154_66, s154_69, s154_72, s154_73, ai_67 HM, ai_69 HM, ai_70 HM, ai_71 HM, gr_65_3 HM, gr_65_6 HM, gr_65_7 HM, gr_65_8 HM, gt_65 HM, am154, isRf_ref, true_and, and_true, aPs_s, aPs_n, b01_0, b01_1]
    trace_state
    simp (disch := omega) only [nI_clamp, inb_nI, hb, eT, lt_nI, hk, if_true, true_and, pk_mul, nI_add]
    trace_state
    sorry)
  simp only [s154_0, s154_1, s154_2, s154_3, s154_5, s154_6, s154_9, s154_10, s154_11, s154_14, s154_15, s154_18, s154_19, s154_20, s154_21, s154_22, s154_23, s154_24, s154_26, s154_27, s154_28, s154_31, s154_32, s154_33, s154_34, s154_35, s154_36, s154_37, s154_39, s154_40, s154_43, s154_44, s154_47, s154_48, s154_51, s154_53, s154_56, s154_57, s154_60, s154_62, s154_63, s154_64, s154_65, s154_66, s154_69, s154_72, s154_73, ai_67 HM, ai_69 HM, ai_70 HM, ai_71 HM, gr_65_3 HM, gr_65_6 HM, gr_65_7 HM, gr_65_8 HM, gt_65 HM, am154, isRf_ref, true_and, and_true, aPs_s, aPs_n, b01_0, b01_1]
  exact loop 0 (Nat.zero_le _) _
end M1
