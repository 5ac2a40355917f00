/-! THE CLASS: what is SENT OUT -/
theorem nI_xor (a b : Nat) : nI a ^^^ nI b = nI (a ^^^ b) := by
  unfold nI
  apply Int32.toBitVec_inj.mp
  simp [Int32.toBitVec_xor, BitVec.ofNat_xor]
theorem nI_andn (a b : Nat) : nI a &&& (nI b ^^^ (-1)) = nI (a ^^^ (a &&& b)) := by
  rw [← nI_xor, ← nI_and]
  apply Int32.toBitVec_inj.mp
  rw [Int32.toBitVec_and, Int32.toBitVec_xor, Int32.toBitVec_xor, Int32.toBitVec_and]
  have : (-1 : Int32).toBitVec = BitVec.allOnes 32 := by decide
  rw [this, BitVec.xor_allOnes]
  apply BitVec.eq_of_getLsbD_eq
  intro i hi
  simp [hi]
  cases (nI a).toBitVec[i] <;> cases (nI b).toBitVec[i] <;> rfl
def us (a : Int32) (k : Nat) : Int32 := (a.toUInt32 >>> ((nI k).toUInt32 &&& Int32.toUInt32 31)).toInt32
def bc1 (a : Int32) : Int32 := a - (us a 1 &&& 1431655765)
def bc2 (a : Int32) : Int32 := (a &&& 858993459) + (us a 2 &&& 858993459)
def bc3 (a : Int32) : Int32 := (a + us a 4) &&& 252645135
def bc4 (a : Int32) : Int32 := a + us a 8
def bc5 (a : Int32) : Int32 := a + us a 16
def bcI (a : Int32) : Int32 := bc5 (bc4 (bc3 (bc2 (bc1 a)))) &&& nI 63
theorem bc_ok {x : Nat} (hx : x < 1024) : bcI (nI x) = nI (cntB x 10) := by
  have key : ∀ i : Fin 1024, bcI (nI i.val) = nI (cntB i.val 10) := by decide +kernel
  exact key ⟨x, hx⟩
theorem idM_tb {P : Nat → Nat → Int32} {o : Nat → Nat} {b j : Nat} : ∀ {n : Nat}, tb (idM P o b n) j = (decide (j < n) && ioB P o b j) := by
  intro n
  induction n with
  | zero => rw [idM, tb_0]; simp
  | succ n ih =>
    rw [idM]
    by_cases e : j = n
    · subst e
      split
      · rename_i h; rw [tb_or, ih, h]; simp
      · rename_i h; rw [ih]; simp at h ⊢; exact h
    · have h1 : decide (j < n + 1) = decide (j < n) := by
        apply decide_eq_decide.mpr
        omega
      split
      · rw [tb_or, ih, h1]; simp [e]
      · rw [ih, h1]
theorem tb_dbl {D j : Nat} : tb (D * 2) j = (match j with
    | 0 => false
    | i + 1 => tb D i) := by
  unfold tb
  cases j with
  | zero => simp [Nat.testBit_zero]
  | succ i =>
    rw [Nat.testBit_succ, Nat.mul_div_cancel _ (by decide)]
theorem cntB_hi {D n : Nat} (hD : D < 2 ^ n) : ∀ {m : Nat}, n ≤ m → cntB D m = cntB D n := by
  intro m hm
  obtain ⟨j, rfl⟩ := Nat.exists_eq_add_of_le hm
  clear hm
  induction j with
  | zero => rfl
  | succ j ih =>
    show cntB D (n + j + 1) = cntB D n
    have hn : ¬ tb D (n + j) = true := fun h => by
      have := tb_lt hD h
      omega
    rw [cntB, ih, if_neg hn]
    rfl
/-- how many stretches stand idle -/
theorem zTo_cnt {P : Nat → Nat → Int32} {o : Nat → Nat} {b rate N : Nat} : ∀ {n : Nat}, n ≤ N → zTo P o b rate n = cntB (idM P o b N ^^^ (idM P o b N &&& idM P o b N * 2)) n * ((2 * zS P b + rate - 1) / rate) := by
  intro n
  induction n with
  | zero => intro _; rw [zTo, cntB, Nat.zero_mul]
  | succ n ih =>
    intro hn
    have e : tb (idM P o b N ^^^ (idM P o b N &&& idM P o b N * 2)) n = toB P o b n := by
      have h1 : tb (idM P o b N ^^^ (idM P o b N &&& idM P o b N * 2)) n = (tb (idM P o b N) n ^^ (tb (idM P o b N) n && tb (idM P o b N * 2) n)) := by
        unfold tb
        rw [Nat.testBit_xor, Nat.testBit_and]
      rw [h1, idM_tb, decide_eq_true (show n < N by omega), Bool.true_and]
      unfold toB
      cases n with
      | zero =>
        rw [tb_dbl]
        simp
      | succ j =>
        rw [tb_dbl]
        simp only
        rw [idM_tb, decide_eq_true (show j < N by omega), Bool.true_and]
        cases ioB P o b (j + 1) <;> cases ioB P o b j <;> rfl
    rw [zTo, ih (by omega), cntB, e, Nat.add_mul]
    congr 1
    split <;> simp
theorem zTo_bits {P : Nat → Nat → Int32} (V : okP P) {o : Nat → Nat} {b rate : Nat} : zTo P o b rate (nS P) = cntB (idM P o b (nS P) ^^^ (idM P o b (nS P) &&& idM P o b (nS P) * 2)) 10 * ((2 * zS P b + rate - 1) / rate) ∧ idM P o b (nS P) ^^^ (idM P o b (nS P) &&& idM P o b (nS P) * 2) < 1024 := by
  have s10 := V.s.1
  have h1 := idM_lt (P := P) (o := o) (b := b) (n := nS P)
  have h2 : idM P o b (nS P) ^^^ (idM P o b (nS P) &&& idM P o b (nS P) * 2) < 2 ^ nS P := Nat.xor_lt_two_pow h1 (Nat.lt_of_le_of_lt Nat.and_le_left h1)
  refine ⟨?_, Nat.lt_of_lt_of_le h2 (Nat.pow_le_pow_right (n := 2) (by decide) s10)⟩
  rw [zTo_cnt (Nat.le_refl _), cntB_hi h2 s10]
section C14
variable {d p : Nat} {h : abH} {Q : Option Value → abH → Prop}
set_option maxHeartbeats 4000000 in
theorem c219 {x : Nat} (hx : x < 1024) : aM d 219 [.int (nI x)] h Q = Q (some (.int (nI (cntB x 10)))) h := by
  rw [← bc_ok hx]
  simp only [s219_0, s219_1, s219_2, s219_3, s219_4, s219_7, s219_8, s219_9, s219_10, s219_11, s219_14, s219_15, s219_16, s219_17, s219_18, s219_21, s219_22, s219_23, s219_24, s219_25, s219_26, s219_27, s219_28, s219_29, s219_32, s219_33, s219_34, s219_35, s219_36, s219_38, s219_39, s219_40, s219_41, s219_42, s219_43, s219_45, s219_46, s219_47, s219_48, s219_49, s219_51, s219_52, am219, isRf_ref, true_and, and_true, aPs_s, aPs_n, b01_0, b01_1]
  rfl
/-- what is set as one looks for what is SENT OUT -/
def ND (h : abH) (s : Nat) : Prop := gR h 46 1 = .ref 29 ∧ gR h 46 2 = .ref (57 + 2 * s)
/-- a SHEET of BUFFERS -/
def SB (h : abH) (s n : Nat) (bb : Nat → Nat) : Prop := gI h (57 + 2 * s) 1 = nI n ∧ ∀ i, i < n → gI h (58 + 2 * s) i = nI (bb i) ∧ bb i < 12
set_option maxHeartbeats 4000000 in
theorem c73 (H : KC h) {s n : Nat} (hs : s < 4) (hn : n ≤ 6) {bb : Nat → Nat} (N : ND h s) (B : SB h s n bb) {D : Nat} (hD : D < 64) : aM d 73 [.ref 46, .int (nI D)] h Q = Q (some (.int (nI (sbN bb D n)))) h := by
  obtain ⟨n1, n2⟩ := N
  obtain ⟨B1, B2⟩ := B
  have loop := for_0 (F := fun k => aW d 73 4 [.ref 46, .int (nI D), .int (nI (sbN bb D k)), .int (nI k)] [] h Q) (R := Q (some (.int (nI (sbN bb D n)))) h) n (by
    rw [s73_4]
    simp (disch := first | omega | assumption | exact gtS H hs | exact gt_46 H | (simp only [gT_pA, gT_pI, gT_pR]; first | assumption | exact gtS H hs | exact gt_46 H) | fail) only [s73_0, s73_1, s73_2, s73_3, s73_5, s73_6, s73_9, s73_12, s73_15, s73_16, s73_17, s73_18, s73_19, s73_20, s73_23, s73_24, s73_25, s73_26, s73_29, s73_32, s73_33, s73_34, s73_35, s73_36, s73_37, s73_40, s73_43, s73_44, aiS H hs, grS2 H hs, gtS H hs, gt_46 H, am73, isRf_ref, true_and, and_true, aPs_s, aPs_n, b01_0, b01_1, nI_clamp, ix_nI, inb_nI, lt_nI, eq_nI, nn_nI, eq0_nI, pk_mul, nI_add, lt_T, lt_F, if_true, if_false, true_and, and_true, neg1_nI, neg1_lt, neg1_neg, lt_neg1, eqN_F, eq_self,  n2, B1, Nat.lt_irrefl]) (fun k hk => by
    obtain ⟨b1, b2⟩ := B2 k hk
    have k40 : k < 40 := by omega
    rw [s73_4, sbN]
    rcases Bool.eq_false_or_eq_true (tb D k) with g | g
    · simp (disch := first | omega | assumption | exact gtS H hs | exact gt_46 H | (simp only [gT_pA, gT_pI, gT_pR]; first | assumption | exact gtS H hs | exact gt_46 H) | fail) only [s73_0, s73_1, s73_2, s73_3, s73_5, s73_6, s73_9, s73_12, s73_15, s73_16, s73_17, s73_18, s73_19, s73_20, s73_23, s73_24, s73_25, s73_26, s73_29, s73_32, s73_33, s73_34, s73_35, s73_36, s73_37, s73_40, s73_43, s73_44, aiS H hs, grS2 H hs, gtS H hs, gt_46 H, am73, isRf_ref, true_and, and_true, aPs_s, aPs_n, b01_0, b01_1, nI_clamp, ix_nI, inb_nI, lt_nI, eq_nI, nn_nI, eq0_nI, pk_mul, nI_add, lt_T, lt_F, if_true, if_false, true_and, and_true, neg1_nI, neg1_lt, neg1_neg, lt_neg1, eqN_F, eq_self,  n2, B1, hk, bit_0, g, Bool.not_false, Bool.not_true, Bool.true_and, Bool.false_and, Bool.and_true, Bool.and_false, Bool.or_true, Bool.or_false, Bool.true_or, Bool.false_or, Bool.true_eq_false, Bool.false_eq_true, if_true, if_false, Option.isSome_some, Option.isSome_none, Option.isNone_some, Option.isNone_none, zB_t, zB_f, nI1_0, nI0_0, k40, b1, nI_bit]
    · simp (disch := first | omega | assumption | exact gtS H hs | exact gt_46 H | (simp only [gT_pA, gT_pI, gT_pR]; first | assumption | exact gtS H hs | exact gt_46 H) | fail) only [s73_0, s73_1, s73_2, s73_3, s73_5, s73_6, s73_9, s73_12, s73_15, s73_16, s73_17, s73_18, s73_19, s73_20, s73_23, s73_24, s73_25, s73_26, s73_29, s73_32, s73_33, s73_34, s73_35, s73_36, s73_37, s73_40, s73_43, s73_44, aiS H hs, grS2 H hs, gtS H hs, gt_46 H, am73, isRf_ref, true_and, and_true, aPs_s, aPs_n, b01_0, b01_1, nI_clamp, ix_nI, inb_nI, lt_nI, eq_nI, nn_nI, eq0_nI, pk_mul, nI_add, lt_T, lt_F, if_true, if_false, true_and, and_true, neg1_nI, neg1_lt, neg1_neg, lt_neg1, eqN_F, eq_self,  n2, B1, hk, bit_0, g, Bool.not_false, Bool.not_true, Bool.true_and, Bool.false_and, Bool.and_true, Bool.and_false, Bool.or_true, Bool.or_false, Bool.true_or, Bool.false_or, Bool.true_eq_false, Bool.false_eq_true, if_true, if_false, Option.isSome_some, Option.isSome_none, Option.isNone_some, Option.isNone_none, zB_t, zB_f, nI1_0, nI0_0])
  simp (disch := first | omega | assumption | exact gtS H hs | exact gt_46 H | (simp only [gT_pA, gT_pI, gT_pR]; first | assumption | exact gtS H hs | exact gt_46 H) | fail) only [s73_0, s73_1, s73_2, s73_3, s73_5, s73_6, s73_9, s73_12, s73_15, s73_16, s73_17, s73_18, s73_19, s73_20, s73_23, s73_24, s73_25, s73_26, s73_29, s73_32, s73_33, s73_34, s73_35, s73_36, s73_37, s73_40, s73_43, s73_44, aiS H hs, grS2 H hs, gtS H hs, gt_46 H, am73, isRf_ref, true_and, and_true, aPs_s, aPs_n, b01_0, b01_1, nI_clamp, ix_nI, inb_nI, lt_nI, eq_nI, nn_nI, eq0_nI, pk_mul, nI_add, lt_T, lt_F, if_true, if_false, true_and, and_true, neg1_nI, neg1_lt, neg1_neg, lt_neg1, eqN_F, eq_self, ]
  exact loop
set_option maxHeartbeats 8000000 in
theorem c74 (H : KC h) (hp : p = 5 ∨ p = 17) {P : Nat → Nat → Int32} (V : okP P) (T : TH h p P) (LDh : LD h P) {o : Nat → Nat} (O : ordV P o) (L : TL h P o) (r46 : gR h 46 1 = .ref 29) {E rate : Nat} (hE : E < 4096) (hr : 0 < rate) (hr2 : rate < 100) : aM (d + 2) 74 [.ref 46, .int (nI E), .int (nI rate)] h Q = Q (some (.int (nI (stN P o E rate 12)))) h := by
  have s10 := V.s.1
  have hr0 : (nI rate = 0) = False := by rw [eq0_nI (by omega)]; exact eqN_F (by omega)
  have loop := for_ds (σ := Value × Value) (F := fun b x => aW (d + 2) 74 5 [.ref 46, .int (nI E), .int (nI rate), .int (nI (stN P o E rate b)), .int (nI b), x.1, x.2] [] h Q) (R := fun _ => Q (some (.int (nI (stN P o E rate 12)))) h) 12 (fun x => by
    rw [s74_5]
    simp (disch := first | omega | assumption | exact gt_29 H | exact gt_30 H | exact gt_46 H | (simp only [gT_pA, gT_pI, gT_pR]; first | assumption | exact gt_29 H | exact gt_30 H | exact gt_46 H) | fail) only [s74_0, s74_1, s74_2, s74_3, s74_7, s74_9, s74_12, s74_13, s74_15, s74_16, s74_17, s74_18, s74_21, s74_22, s74_25, s74_27, s74_30, s74_32, s74_34, s74_36, s74_37, s74_38, s74_39, s74_40, s74_41, s74_44, s74_46, s74_47, s74_49, s74_50, s74_51, s74_54, s74_57, s74_60, s74_62, s74_63, s74_64, s74_65, s74_66, s74_67, s74_68, s74_69, s74_70, s74_71, s74_72, s74_73, s74_76, s74_79, s74_80, ai_31 H, gr_29_0 H, gr_30_1 H, gt_29 H, gt_30 H, gt_46 H, am74, isRf_ref, true_and, and_true, aPs_s, aPs_n, b01_0, b01_1, nI_clamp, ix_nI, inb_nI, lt_nI, eq_nI, nn_nI, eq0_nI, pk_mul, nI_add, lt_T, lt_F, if_true, if_false, true_and, and_true, neg1_nI, neg1_lt, neg1_neg, lt_neg1, eqN_F, eq_self,  Nat.lt_irrefl]) (fun b hb ih x => by
    have hz := (zS_ok V hb).2
    have lz := LDh.1 b hb
    have hI := idM_lt (P := P) (o := o) (b := b) (n := nS P)
    have hI2 : idM P o b (nS P) < 1024 := Nat.lt_of_lt_of_le hI (Nat.pow_le_pow_right (n := 2) (by decide) s10)
    obtain ⟨zb, zl⟩ := zTo_bits V (o := o) (b := b) (rate := rate)
    have c93' : ∀ Q', aM (d + 1) 93 [.ref 29, .int (nI b)] h Q' = Q' (some (.int (nI (idM P o b (nS P))))) h := fun Q' => c93 H hp V T O L hb
    have e1 : nI (idM P o b (nS P)) <<< (nI 1 &&& 31) = nI (idM P o b (nS P) * 2) := by rw [nI_shl (by decide) (by omega)]
    have e2 := nI_andn (idM P o b (nS P)) (idM P o b (nS P) * 2)
    have c219' : ∀ Q', aM (d + 1) 219 [.int (nI (idM P o b (nS P) ^^^ (idM P o b (nS P) &&& idM P o b (nS P) * 2)))] h Q' = Q' (some (.int (nI (cntB (idM P o b (nS P) ^^^ (idM P o b (nS P) &&& idM P o b (nS P) * 2)) 10)))) h := fun Q' => c219 zl
    have hdv : nI (2 * zS P b + rate) - nI 1 = nI (2 * zS P b + rate - 1) := pk_sub (by omega)
    have hdi : nI (2 * zS P b + rate - 1) / nI rate = nI ((2 * zS P b + rate - 1) / rate) := pk_div (by omega) (by omega) (by omega)
    have ih' : ∀ x y, aW (d + 2) 74 5 [.ref 46, .int (nI E), .int (nI rate), .int (nI (stN P o E rate (b + 1))), .int (nI (b + 1)), x, y] [] h Q = Q (some (.int (nI (stN P o E rate 12)))) h := fun x y => ih (x, y)
    rw [stN] at ih'
    rw [s74_5]
    rcases Bool.eq_false_or_eq_true (tb E b) with g | g
    · simp only [g, if_true, zb] at ih'
      simp (disch := first | omega | assumption | exact gt_29 H | exact gt_30 H | exact gt_46 H | (simp only [gT_pA, gT_pI, gT_pR]; first | assumption | exact gt_29 H | exact gt_30 H | exact gt_46 H) | fail) only [s74_0, s74_1, s74_2, s74_3, s74_7, s74_9, s74_12, s74_13, s74_15, s74_16, s74_17, s74_18, s74_21, s74_22, s74_25, s74_27, s74_30, s74_32, s74_34, s74_36, s74_37, s74_38, s74_39, s74_40, s74_41, s74_44, s74_46, s74_47, s74_49, s74_50, s74_51, s74_54, s74_57, s74_60, s74_62, s74_63, s74_64, s74_65, s74_66, s74_67, s74_68, s74_69, s74_70, s74_71, s74_72, s74_73, s74_76, s74_79, s74_80, ai_31 H, gr_29_0 H, gr_30_1 H, gt_29 H, gt_30 H, gt_46 H, am74, isRf_ref, true_and, and_true, aPs_s, aPs_n, b01_0, b01_1, nI_clamp, ix_nI, inb_nI, lt_nI, eq_nI, nn_nI, eq0_nI, pk_mul, nI_add, lt_T, lt_F, if_true, if_false, true_and, and_true, neg1_nI, neg1_lt, neg1_neg, lt_neg1, eqN_F, eq_self,  hb, bit_0, g, Bool.not_false, Bool.not_true, Bool.true_and, Bool.false_and, Bool.and_true, Bool.and_false, Bool.or_true, Bool.or_false, Bool.true_or, Bool.false_or, Bool.true_eq_false, Bool.false_eq_true, if_true, if_false, Option.isSome_some, Option.isSome_none, Option.isNone_some, Option.isNone_none, zB_t, zB_f, nI1_0, nI0_0, r46, c93', e1, e2, c219', lz, hdv, hdi, hr0, not_false_eq_true, ih']
    · simp only [g, Bool.false_eq_true, if_false, Nat.add_zero] at ih'
      simp (disch := first | omega | assumption | exact gt_29 H | exact gt_30 H | exact gt_46 H | (simp only [gT_pA, gT_pI, gT_pR]; first | assumption | exact gt_29 H | exact gt_30 H | exact gt_46 H) | fail) only [s74_0, s74_1, s74_2, s74_3, s74_7, s74_9, s74_12, s74_13, s74_15, s74_16, s74_17, s74_18, s74_21, s74_22, s74_25, s74_27, s74_30, s74_32, s74_34, s74_36, s74_37, s74_38, s74_39, s74_40, s74_41, s74_44, s74_46, s74_47, s74_49, s74_50, s74_51, s74_54, s74_57, s74_60, s74_62, s74_63, s74_64, s74_65, s74_66, s74_67, s74_68, s74_69, s74_70, s74_71, s74_72, s74_73, s74_76, s74_79, s74_80, ai_31 H, gr_29_0 H, gr_30_1 H, gt_29 H, gt_30 H, gt_46 H, am74, isRf_ref, true_and, and_true, aPs_s, aPs_n, b01_0, b01_1, nI_clamp, ix_nI, inb_nI, lt_nI, eq_nI, nn_nI, eq0_nI, pk_mul, nI_add, lt_T, lt_F, if_true, if_false, true_and, and_true, neg1_nI, neg1_lt, neg1_neg, lt_neg1, eqN_F, eq_self,  hb, bit_0, g, Bool.not_false, Bool.not_true, Bool.true_and, Bool.false_and, Bool.and_true, Bool.and_false, Bool.or_true, Bool.or_false, Bool.true_or, Bool.false_or, Bool.true_eq_false, Bool.false_eq_true, if_true, if_false, Option.isSome_some, Option.isSome_none, Option.isNone_some, Option.isNone_none, zB_t, zB_f, nI1_0, nI0_0, ih'])
  simp (disch := first | omega | assumption | exact gt_29 H | exact gt_30 H | exact gt_46 H | (simp only [gT_pA, gT_pI, gT_pR]; first | assumption | exact gt_29 H | exact gt_30 H | exact gt_46 H) | fail) only [s74_0, s74_1, s74_2, s74_3, s74_7, s74_9, s74_12, s74_13, s74_15, s74_16, s74_17, s74_18, s74_21, s74_22, s74_25, s74_27, s74_30, s74_32, s74_34, s74_36, s74_37, s74_38, s74_39, s74_40, s74_41, s74_44, s74_46, s74_47, s74_49, s74_50, s74_51, s74_54, s74_57, s74_60, s74_62, s74_63, s74_64, s74_65, s74_66, s74_67, s74_68, s74_69, s74_70, s74_71, s74_72, s74_73, s74_76, s74_79, s74_80, ai_31 H, gr_29_0 H, gr_30_1 H, gt_29 H, gt_30 H, gt_46 H, am74, isRf_ref, true_and, and_true, aPs_s, aPs_n, b01_0, b01_1, nI_clamp, ix_nI, inb_nI, lt_nI, eq_nI, nn_nI, eq0_nI, pk_mul, nI_add, lt_T, lt_F, if_true, if_false, true_and, and_true, neg1_nI, neg1_lt, neg1_neg, lt_neg1, eqN_F, eq_self, ]
  exact loop 0 (Nat.zero_le _) (.retAddr 0, .retAddr 0)
set_option maxHeartbeats 8000000 in
theorem c76 (H : KC h) (hp : p = 5 ∨ p = 17) {P : Nat → Nat → Int32} (V : okP P) (T : TH h p P) (LDh : LD h P) {o : Nat → Nat} (O : ordV P o) (L : TL h P o) (r46 : gR h 46 1 = .ref 29) {E k : Nat} (hE : E < 4096) (hk : k < nS P) : aM (d + 2) 76 [.ref 46, .int (nI E), .int (nI k)] h Q = Q (some (.int (nI (zOt P o E k 12)))) h := by
  have s10 := V.s.1
  have k10 : k < 10 := by omega
  have loop := for_0 (F := fun b => aW (d + 2) 76 5 [.ref 46, .int (nI E), .int (nI k), .int (nI (zOt P o E k b)), .int (nI b)] [] h Q) (R := Q (some (.int (nI (zOt P o E k 12)))) h) 12 (by
    rw [s76_5]
    simp (disch := first | omega | assumption | exact gt_29 H | exact gt_30 H | exact gt_46 H | (simp only [gT_pA, gT_pI, gT_pR]; first | assumption | exact gt_29 H | exact gt_30 H | exact gt_46 H) | fail) only [s76_0, s76_1, s76_2, s76_3, s76_7, s76_9, s76_12, s76_13, s76_15, s76_16, s76_17, s76_18, s76_21, s76_22, s76_25, s76_27, s76_30, s76_31, s76_32, s76_33, s76_34, s76_37, s76_38, s76_39, s76_42, s76_45, s76_48, s76_50, s76_51, s76_52, s76_53, s76_56, s76_59, s76_60, ai_31 H, gr_29_0 H, gr_30_1 H, gt_29 H, gt_30 H, gt_46 H, am76, isRf_ref, true_and, and_true, aPs_s, aPs_n, b01_0, b01_1, nI_clamp, ix_nI, inb_nI, lt_nI, eq_nI, nn_nI, eq0_nI, pk_mul, nI_add, lt_T, lt_F, if_true, if_false, true_and, and_true, neg1_nI, neg1_lt, neg1_neg, lt_neg1, eqN_F, eq_self,  Nat.lt_irrefl]) (fun b hb => by
    have lz := LDh.1 b hb
    have hI := idM_lt (P := P) (o := o) (b := b) (n := nS P)
    have hI2 : idM P o b (nS P) < 1024 := Nat.lt_of_lt_of_le hI (Nat.pow_le_pow_right (n := 2) (by decide) s10)
    have c93' : ∀ Q', aM (d + 1) 93 [.ref 29, .int (nI b)] h Q' = Q' (some (.int (nI (idM P o b (nS P))))) h := fun Q' => c93 H hp V T O L hb
    have et : tb (idM P o b (nS P)) k = ioB P o b k := by rw [idM_tb, decide_eq_true hk, Bool.true_and]
    rw [s76_5, zOt]
    rcases Bool.eq_false_or_eq_true (tb E b) with g | g
    · rcases Bool.eq_false_or_eq_true (ioB P o b k) with g2 | g2
      · simp (disch := first | omega | assumption | exact gt_29 H | exact gt_30 H | exact gt_46 H | (simp only [gT_pA, gT_pI, gT_pR]; first | assumption | exact gt_29 H | exact gt_30 H | exact gt_46 H) | fail) only [s76_0, s76_1, s76_2, s76_3, s76_7, s76_9, s76_12, s76_13, s76_15, s76_16, s76_17, s76_18, s76_21, s76_22, s76_25, s76_27, s76_30, s76_31, s76_32, s76_33, s76_34, s76_37, s76_38, s76_39, s76_42, s76_45, s76_48, s76_50, s76_51, s76_52, s76_53, s76_56, s76_59, s76_60, ai_31 H, gr_29_0 H, gr_30_1 H, gt_29 H, gt_30 H, gt_46 H, am76, isRf_ref, true_and, and_true, aPs_s, aPs_n, b01_0, b01_1, nI_clamp, ix_nI, inb_nI, lt_nI, eq_nI, nn_nI, eq0_nI, pk_mul, nI_add, lt_T, lt_F, if_true, if_false, true_and, and_true, neg1_nI, neg1_lt, neg1_neg, lt_neg1, eqN_F, eq_self,  hb, bit_0, g, Bool.not_false, Bool.not_true, Bool.true_and, Bool.false_and, Bool.and_true, Bool.and_false, Bool.or_true, Bool.or_false, Bool.true_or, Bool.false_or, Bool.true_eq_false, Bool.false_eq_true, if_true, if_false, Option.isSome_some, Option.isSome_none, Option.isNone_some, Option.isNone_none, zB_t, zB_f, nI1_0, nI0_0, r46, c93', et, g2, lz]
      · simp (disch := first | omega | assumption | exact gt_29 H | exact gt_30 H | exact gt_46 H | (simp only [gT_pA, gT_pI, gT_pR]; first | assumption | exact gt_29 H | exact gt_30 H | exact gt_46 H) | fail) only [s76_0, s76_1, s76_2, s76_3, s76_7, s76_9, s76_12, s76_13, s76_15, s76_16, s76_17, s76_18, s76_21, s76_22, s76_25, s76_27, s76_30, s76_31, s76_32, s76_33, s76_34, s76_37, s76_38, s76_39, s76_42, s76_45, s76_48, s76_50, s76_51, s76_52, s76_53, s76_56, s76_59, s76_60, ai_31 H, gr_29_0 H, gr_30_1 H, gt_29 H, gt_30 H, gt_46 H, am76, isRf_ref, true_and, and_true, aPs_s, aPs_n, b01_0, b01_1, nI_clamp, ix_nI, inb_nI, lt_nI, eq_nI, nn_nI, eq0_nI, pk_mul, nI_add, lt_T, lt_F, if_true, if_false, true_and, and_true, neg1_nI, neg1_lt, neg1_neg, lt_neg1, eqN_F, eq_self,  hb, bit_0, g, Bool.not_false, Bool.not_true, Bool.true_and, Bool.false_and, Bool.and_true, Bool.and_false, Bool.or_true, Bool.or_false, Bool.true_or, Bool.false_or, Bool.true_eq_false, Bool.false_eq_true, if_true, if_false, Option.isSome_some, Option.isSome_none, Option.isNone_some, Option.isNone_none, zB_t, zB_f, nI1_0, nI0_0, r46, c93', et, g2, Nat.add_zero]
    · simp (disch := first | omega | assumption | exact gt_29 H | exact gt_30 H | exact gt_46 H | (simp only [gT_pA, gT_pI, gT_pR]; first | assumption | exact gt_29 H | exact gt_30 H | exact gt_46 H) | fail) only [s76_0, s76_1, s76_2, s76_3, s76_7, s76_9, s76_12, s76_13, s76_15, s76_16, s76_17, s76_18, s76_21, s76_22, s76_25, s76_27, s76_30, s76_31, s76_32, s76_33, s76_34, s76_37, s76_38, s76_39, s76_42, s76_45, s76_48, s76_50, s76_51, s76_52, s76_53, s76_56, s76_59, s76_60, ai_31 H, gr_29_0 H, gr_30_1 H, gt_29 H, gt_30 H, gt_46 H, am76, isRf_ref, true_and, and_true, aPs_s, aPs_n, b01_0, b01_1, nI_clamp, ix_nI, inb_nI, lt_nI, eq_nI, nn_nI, eq0_nI, pk_mul, nI_add, lt_T, lt_F, if_true, if_false, true_and, and_true, neg1_nI, neg1_lt, neg1_neg, lt_neg1, eqN_F, eq_self,  hb, bit_0, g, Bool.not_false, Bool.not_true, Bool.true_and, Bool.false_and, Bool.and_true, Bool.and_false, Bool.or_true, Bool.or_false, Bool.true_or, Bool.false_or, Bool.true_eq_false, Bool.false_eq_true, if_true, if_false, Option.isSome_some, Option.isSome_none, Option.isNone_some, Option.isNone_none, zB_t, zB_f, nI1_0, nI0_0, Nat.add_zero])
  simp (disch := first | omega | assumption | exact gt_29 H | exact gt_30 H | exact gt_46 H | (simp only [gT_pA, gT_pI, gT_pR]; first | assumption | exact gt_29 H | exact gt_30 H | exact gt_46 H) | fail) only [s76_0, s76_1, s76_2, s76_3, s76_7, s76_9, s76_12, s76_13, s76_15, s76_16, s76_17, s76_18, s76_21, s76_22, s76_25, s76_27, s76_30, s76_31, s76_32, s76_33, s76_34, s76_37, s76_38, s76_39, s76_42, s76_45, s76_48, s76_50, s76_51, s76_52, s76_53, s76_56, s76_59, s76_60, ai_31 H, gr_29_0 H, gr_30_1 H, gt_29 H, gt_30 H, gt_46 H, am76, isRf_ref, true_and, and_true, aPs_s, aPs_n, b01_0, b01_1, nI_clamp, ix_nI, inb_nI, lt_nI, eq_nI, nn_nI, eq0_nI, pk_mul, nI_add, lt_T, lt_F, if_true, if_false, true_and, and_true, neg1_nI, neg1_lt, neg1_neg, lt_neg1, eqN_F, eq_self, ]
  exact loop
set_option maxHeartbeats 8000000 in
theorem c75 (H : KC h) (hp : p = 5 ∨ p = 17) {P : Nat → Nat → Int32} (V : okP P) (T : TH h p P) (LDh : LD h P) {o : Nat → Nat} (O : ordV P o) (L : TL h P o) (r46 : gR h 46 1 = .ref 29) {E room : Nat} (hE : E < 4096) (hr : room < 100000) : aM (d + 3) 75 [.ref 46, .int (nI E), .int (nI room)] h Q = Q (some (.int (zB (fiB P o E room)))) h := by
  have s10 := V.s.1
  have e4 := T.1.s
  have r29 := T.2
  unfold fiB
  have loop := for_dn (F := fun k => aW (d + 3) 75 2 [.ref 46, .int (nI E), .int (nI room), .int (nI k)] [] h Q) (R := fun k => Q (some (.int (zB (fst1 (fun k => !ftB P o E room k) (nS P - k) k).isNone))) h) (nS P) (by
    rw [s75_2, fst1_end]
    simp (disch := first | omega | assumption | exact gtP H hp | exact gt_29 H | exact gt_46 H | (simp only [gT_pA, gT_pI, gT_pR]; first | assumption | exact gtP H hp | exact gt_29 H | exact gt_46 H) | fail) only [s75_0, s75_1, s75_3, s75_4, s75_7, s75_10, s75_13, s75_16, s75_17, s75_20, s75_23, s75_24, s75_25, s75_26, s75_27, s75_28, s75_31, s75_32, s75_33, s75_36, s75_37, s75_38, s75_41, s75_44, s75_45, ai_36 H, gr_29_6 H, gtP H hp, gt_29 H, gt_46 H, am75, isRf_ref, true_and, and_true, aPs_s, aPs_n, b01_0, b01_1, nI_clamp, ix_nI, inb_nI, lt_nI, eq_nI, nn_nI, eq0_nI, pk_mul, nI_add, lt_T, lt_F, if_true, if_false, true_and, and_true, neg1_nI, neg1_lt, neg1_neg, lt_neg1, eqN_F, eq_self,  r46, r29, e4, Nat.lt_irrefl, Bool.not_false, Bool.not_true, Bool.true_and, Bool.false_and, Bool.and_true, Bool.and_false, Bool.or_true, Bool.or_false, Bool.true_or, Bool.false_or, Bool.true_eq_false, Bool.false_eq_true, if_true, if_false, Option.isSome_some, Option.isSome_none, Option.isNone_some, Option.isNone_none, zB_t, zB_f, nI1_0, nI0_0]) (fun k hk ih => by
    have k10 : k < 10 := by omega
    have l1 := (L.1 k hk).2.2
    have hl := zLd_le V (O k hk).1
    have ho := zOt_le V (o := o) (D := E) (k := k) (Nat.le_refl 12)
    have c76' : ∀ Q', aM (d + 2) 76 [.ref 46, .int (nI E), .int (nI k)] h Q' = Q' (some (.int (nI (zOt P o E k 12)))) h := fun Q' => c76 H hp V T LDh O L r46 hE hk
    have lt := lt_sub_nI (r := room) (a := zLd P o k) (b := zOt P o E k 12) (by omega) (by omega) (by omega)
    rw [s75_2, fst1_step hk]
    by_cases h5 : room + zOt P o E k 12 < zLd P o k
    · have g : ftB P o E room k = false := decide_eq_false (by omega)
      simp (disch := first | omega | assumption | exact gtP H hp | exact gt_29 H | exact gt_46 H | (simp only [gT_pA, gT_pI, gT_pR]; first | assumption | exact gtP H hp | exact gt_29 H | exact gt_46 H) | fail) only [s75_0, s75_1, s75_3, s75_4, s75_7, s75_10, s75_13, s75_16, s75_17, s75_20, s75_23, s75_24, s75_25, s75_26, s75_27, s75_28, s75_31, s75_32, s75_33, s75_36, s75_37, s75_38, s75_41, s75_44, s75_45, ai_36 H, gr_29_6 H, gtP H hp, gt_29 H, gt_46 H, am75, isRf_ref, true_and, and_true, aPs_s, aPs_n, b01_0, b01_1, nI_clamp, ix_nI, inb_nI, lt_nI, eq_nI, nn_nI, eq0_nI, pk_mul, nI_add, lt_T, lt_F, if_true, if_false, true_and, and_true, neg1_nI, neg1_lt, neg1_neg, lt_neg1, eqN_F, eq_self,  r46, r29, e4, hk, k10, l1, c76', lt, h5, g, Bool.not_false, Bool.not_true, Bool.true_and, Bool.false_and, Bool.and_true, Bool.and_false, Bool.or_true, Bool.or_false, Bool.true_or, Bool.false_or, Bool.true_eq_false, Bool.false_eq_true, if_true, if_false, Option.isSome_some, Option.isSome_none, Option.isNone_some, Option.isNone_none, zB_t, zB_f, nI1_0, nI0_0]
    · have g : ftB P o E room k = true := decide_eq_true (by omega)
      simp (disch := first | omega | assumption | exact gtP H hp | exact gt_29 H | exact gt_46 H | (simp only [gT_pA, gT_pI, gT_pR]; first | assumption | exact gtP H hp | exact gt_29 H | exact gt_46 H) | fail) only [s75_0, s75_1, s75_3, s75_4, s75_7, s75_10, s75_13, s75_16, s75_17, s75_20, s75_23, s75_24, s75_25, s75_26, s75_27, s75_28, s75_31, s75_32, s75_33, s75_36, s75_37, s75_38, s75_41, s75_44, s75_45, ai_36 H, gr_29_6 H, gtP H hp, gt_29 H, gt_46 H, am75, isRf_ref, true_and, and_true, aPs_s, aPs_n, b01_0, b01_1, nI_clamp, ix_nI, inb_nI, lt_nI, eq_nI, nn_nI, eq0_nI, pk_mul, nI_add, lt_T, lt_F, if_true, if_false, true_and, and_true, neg1_nI, neg1_lt, neg1_neg, lt_neg1, eqN_F, eq_self,  r46, r29, e4, hk, k10, l1, c76', lt, h5, g, Bool.not_false, Bool.not_true, Bool.true_and, Bool.false_and, Bool.and_true, Bool.and_false, Bool.or_true, Bool.or_false, Bool.true_or, Bool.false_or, Bool.true_eq_false, Bool.false_eq_true, if_true, if_false, Option.isSome_some, Option.isSome_none, Option.isNone_some, Option.isNone_none, zB_t, zB_f, nI1_0, nI0_0, ih])
  simp (disch := first | omega | assumption | exact gtP H hp | exact gt_29 H | exact gt_46 H | (simp only [gT_pA, gT_pI, gT_pR]; first | assumption | exact gtP H hp | exact gt_29 H | exact gt_46 H) | fail) only [s75_0, s75_1, s75_3, s75_4, s75_7, s75_10, s75_13, s75_16, s75_17, s75_20, s75_23, s75_24, s75_25, s75_26, s75_27, s75_28, s75_31, s75_32, s75_33, s75_36, s75_37, s75_38, s75_41, s75_44, s75_45, ai_36 H, gr_29_6 H, gtP H hp, gt_29 H, gt_46 H, am75, isRf_ref, true_and, and_true, aPs_s, aPs_n, b01_0, b01_1, nI_clamp, ix_nI, inb_nI, lt_nI, eq_nI, nn_nI, eq0_nI, pk_mul, nI_add, lt_T, lt_F, if_true, if_false, true_and, and_true, neg1_nI, neg1_lt, neg1_neg, lt_neg1, eqN_F, eq_self, ]
  exact loop 0 (Nat.zero_le _)
def seR (h : abH) (s : Nat) : abH := pR (pR h 46 1 (.ref 29)) 46 2 (.ref (57 + 2 * s))
def seX (h : abH) (s : Nat) (x : Option (Nat × Nat)) : abH := pI (seR h s) 46 0 (match x with
  | none => gI h 46 0
  | some y => nI y.2)
theorem KC_46 {s : Nat} (H : KC h) : KC (seR h s) := KC_pR (KC_pR H (by decide)) (by decide)
theorem seX_s {s : Nat} {x : Option (Nat × Nat)} {y : Nat × Nat} : pI (seX h s x) 46 0 (nI y.2) = seX h s (some y) := pI_pI
theorem seX_n {s : Nat} : seX h s none = seR h s := pI_self
theorem ND_se {s : Nat} {x : Option (Nat × Nat)} : ND (seX h s x) s := by
  constructor
  · show gR (pR (pR h 46 1 (.ref 29)) 46 2 (.ref (57 + 2 * s))) 46 1 = _
    rw [gR_pR, if_neg (by omega), gR_pR, if_pos ⟨rfl, rfl⟩]
  · show gR (pR (pR h 46 1 (.ref 29)) 46 2 (.ref (57 + 2 * s))) 46 2 = _
    rw [gR_pR, if_pos ⟨rfl, rfl⟩]
set_option maxHeartbeats 8000000 in
theorem c72 (H : KC h) (hp : p = 5 ∨ p = 17) {P : Nat → Nat → Int32} (V : okP P) (T : TH h p P) (LDh : LD h P) {o : Nat → Nat} (O : ordV P o) (L : TL h P o) {s n room rate : Nat} (hs : s < 4) (hn : n ≤ 6) {bb : Nat → Nat} (B : SB h s n bb) (hrm : room < 100000) (hr : 0 < rate) (hr2 : rate < 100) : aM (d + 4) 72 [.ref 46, .ref 29, .ref (57 + 2 * s), .int (nI room), .int (nI rate)] h Q = Q (some (.int (soI (soN P o bb n room rate (2 ^ n))))) (seX h s (soN P o bb n room rate (2 ^ n))) := by
  have h64 : 2 ^ n ≤ 64 := Nat.pow_le_pow_right (n := 2) (by decide) hn
  have esh : nI 1 <<< (nI n &&& 31) = nI (2 ^ n) := by rw [nI_shl (by omega) (by omega), Nat.one_mul]
  have hb12 : ∀ i, i < n → bb i < 12 := fun i hi => (B.2 i hi).2
  have HMa : ∀ x, KC (seX h s x) := fun x => KC_46 H
  have n2 : ∀ x, gR (seX h s x) 46 2 = .ref (57 + 2 * s) := fun x => ND_se.2
  have r3 : ∀ x, gR (seX h s x) 29 1 = .ref p := fun x => by
    show gR (pR (pR h 46 1 (.ref 29)) 46 2 (.ref (57 + 2 * s))) 29 1 = _
    rw [gR_pR, if_neg (by omega), gR_pR, if_neg (by omega)]
    exact T.2
  have iX : ∀ x o, o ≠ 46 → gI (seX h s x) o = gI h o := fun x o ho => by unfold seX; rw [pI_def, gI_ne ho]; rfl
  have BX : ∀ x, SB (seX h s x) s n bb := fun x => ⟨by rw [iX x _ (by omega)]; exact B.1, fun i hi => by rw [iX x _ (by omega)]; exact B.2 i hi⟩
  have CX : ∀ x, CP (seX h s x) p P := fun x => CPg_of (fun q j h1 h2 => by rw [iX x _ (by omega)]) T.1
  have loop := for_ds (σ := Value × Value) (F := fun D σ => aW (d + 4) 72 16 [.ref 46, .ref 29, .ref (57 + 2 * s), .int (nI room), .int (nI rate), .int (soI (soN P o bb n room rate D)), .int (nI D), σ.1, σ.2] [] (seX h s (soN P o bb n room rate D)) Q) (R := fun _ => Q (some (.int (soI (soN P o bb n room rate (2 ^ n))))) (seX h s (soN P o bb n room rate (2 ^ n)))) (2 ^ n) (fun σ => by
    have b1 := (BX (soN P o bb n room rate (2 ^ n))).1
    rw [s72_16]
    simp (disch := first | omega | assumption | exact gtS (HMa _) hs | exact gt_46 (HMa _) | (simp only [gT_pA, gT_pI, gT_pR]; first | assumption | exact gtS (HMa _) hs | exact gt_46 (HMa _)) | fail) only [s72_0, s72_1, s72_2, s72_5, s72_6, s72_7, s72_10, s72_11, s72_13, s72_14, s72_18, s72_19, s72_20, s72_23, s72_26, s72_27, s72_30, s72_31, s72_33, s72_36, s72_38, s72_39, s72_41, s72_43, s72_46, s72_48, s72_50, s72_53, s72_55, s72_57, s72_60, s72_61, s72_63, s72_64, s72_67, s72_70, s72_72, s72_74, s72_75, s72_77, s72_80, s72_83, s72_86, s72_88, gtS (HMa _) hs, gt_46 (HMa _), am72, isRf_ref, true_and, and_true, aPs_s, aPs_n, b01_0, b01_1, nI_clamp, ix_nI, inb_nI, lt_nI, eq_nI, nn_nI, eq0_nI, pk_mul, nI_add, lt_T, lt_F, if_true, if_false, true_and, and_true, neg1_nI, neg1_lt, neg1_neg, lt_neg1, eqN_F, eq_self,  n2, b1, esh, Nat.lt_irrefl]) (fun D hD ih σ => by
    have ih' : ∀ x y, aW (d + 4) 72 16 [.ref 46, .ref 29, .ref (57 + 2 * s), .int (nI room), .int (nI rate), .int (soI (soN P o bb n room rate (D + 1))), .int (nI (D + 1)), x, y] [] (seX h s (soN P o bb n room rate (D + 1))) Q = Q (some (.int (soI (soN P o bb n room rate (2 ^ n))))) (seX h s (soN P o bb n room rate (2 ^ n))) := fun x y => ih (x, y)
    rw [soN] at ih'
    unfold soS soC at ih'
    rw [s72_16]
    generalize hx : soN P o bb n room rate D = x at ih' ⊢
    have b1 := (BX x).1
    have HX := HMa x
    have LX : TL (seX h s x) P o := by
      refine ⟨fun k hk => ?_, fun b hb => ?_⟩
      · rw [iX x _ (by decide), iX x _ (by decide), iX x _ (by decide)]; exact L.1 k hk
      · rw [iX x _ (by decide), iX x _ (by decide)]; exact L.2 b hb
    have LDX : LD (seX h s x) P := by
      refine ⟨fun b hb => ?_, fun s' hs' => ?_⟩
      · rw [iX x _ (by decide)]; exact LDh.1 b hb
      · rw [iX x _ (by decide), iX x _ (by decide)]; exact LDh.2 s' hs'
    have TX : TH (seX h s x) p P := ⟨CX x, r3 x⟩
    have hE := sbN_lt (D := D) hb12
    have hst := stN_le V (o := o) (D := sbN bb D n) hr hr2 (Nat.le_refl 12)
    have c73' : ∀ Q', aM (d + 3) 73 [.ref 46, .int (nI D)] (seX h s x) Q' = Q' (some (.int (nI (sbN bb D n)))) (seX h s x) := fun Q' => c73 HX hs hn ND_se (BX x) (by omega)
    have c74' : ∀ Q', aM (d + 3) 74 [.ref 46, .int (nI (sbN bb D n)), .int (nI rate)] (seX h s x) Q' = Q' (some (.int (nI (stN P o (sbN bb D n) rate 12)))) (seX h s x) := fun Q' => c74 HX hp V TX LDX O LX ND_se.1 hE hr hr2
    have c75' : ∀ Q', aM (d + 3) 75 [.ref 46, .int (nI (sbN bb D n)), .int (nI room)] (seX h s x) Q' = Q' (some (.int (zB (fiB P o (sbN bb D n) room)))) (seX h s x) := fun Q' => c75 HX hp V TX LDX O LX ND_se.1 hE hrm
    have t46 := gt_46 HX
    have e := seX_s (h := h) (s := s) (x := x) (y := (stN P o (sbN bb D n) rate 12, sbN bb D n))
    have hxl : ∀ y, x = some y → y.1 ≤ 9420840 := fun y hy => (soN_le V hb12 hr hr2 (hx.trans hy)).1
    rcases Bool.eq_false_or_eq_true (fiB P o (sbN bb D n) room) with g | g
    · cases x with
      | none =>
        simp only [g, Bool.not_false, Bool.not_true, Bool.true_and, Bool.false_and, Bool.and_true, Bool.and_false, Bool.or_true, Bool.or_false, Bool.true_or, Bool.false_or, Bool.true_eq_false, Bool.false_eq_true, if_true, if_false, Option.isSome_some, Option.isSome_none, Option.isNone_some, Option.isNone_none, zB_t, zB_f, nI1_0, nI0_0] at ih'
        simp only [soI, Option.map_none, Option.map_some, oI_n, oI_s] at ih' ⊢
        simp (disch := first | omega | assumption | exact gtS HX hs | exact gt_46 HX | (simp only [gT_pA, gT_pI, gT_pR]; first | assumption | exact gtS HX hs | exact gt_46 HX) | fail) only [s72_0, s72_1, s72_2, s72_5, s72_6, s72_7, s72_10, s72_11, s72_13, s72_14, s72_18, s72_19, s72_20, s72_23, s72_26, s72_27, s72_30, s72_31, s72_33, s72_36, s72_38, s72_39, s72_41, s72_43, s72_46, s72_48, s72_50, s72_53, s72_55, s72_57, s72_60, s72_61, s72_63, s72_64, s72_67, s72_70, s72_72, s72_74, s72_75, s72_77, s72_80, s72_83, s72_86, s72_88, gtS HX hs, gt_46 HX, am72, isRf_ref, true_and, and_true, aPs_s, aPs_n, b01_0, b01_1, nI_clamp, ix_nI, inb_nI, lt_nI, eq_nI, nn_nI, eq0_nI, pk_mul, nI_add, lt_T, lt_F, if_true, if_false, true_and, and_true, neg1_nI, neg1_lt, neg1_neg, lt_neg1, eqN_F, eq_self,  n2, b1, esh, hD, c73', c74', iflt_m1, c75', g, Bool.not_false, Bool.not_true, Bool.true_and, Bool.false_and, Bool.and_true, Bool.and_false, Bool.or_true, Bool.or_false, Bool.true_or, Bool.false_or, Bool.true_eq_false, Bool.false_eq_true, if_true, if_false, Option.isSome_some, Option.isSome_none, Option.isNone_some, Option.isNone_none, zB_t, zB_f, nI1_0, nI0_0, e, ih']
      | some y =>
        have hy := hxl y rfl
        by_cases h5 : stN P o (sbN bb D n) rate 12 < y.1
        · simp only [g, h5, decide_true, Bool.not_false, Bool.not_true, Bool.true_and, Bool.false_and, Bool.and_true, Bool.and_false, Bool.or_true, Bool.or_false, Bool.true_or, Bool.false_or, Bool.true_eq_false, Bool.false_eq_true, if_true, if_false, Option.isSome_some, Option.isSome_none, Option.isNone_some, Option.isNone_none, zB_t, zB_f, nI1_0, nI0_0] at ih'
          simp only [soI, Option.map_none, Option.map_some, oI_n, oI_s] at ih' ⊢
          simp (disch := first | omega | assumption | exact gtS HX hs | exact gt_46 HX | (simp only [gT_pA, gT_pI, gT_pR]; first | assumption | exact gtS HX hs | exact gt_46 HX) | fail) only [s72_0, s72_1, s72_2, s72_5, s72_6, s72_7, s72_10, s72_11, s72_13, s72_14, s72_18, s72_19, s72_20, s72_23, s72_26, s72_27, s72_30, s72_31, s72_33, s72_36, s72_38, s72_39, s72_41, s72_43, s72_46, s72_48, s72_50, s72_53, s72_55, s72_57, s72_60, s72_61, s72_63, s72_64, s72_67, s72_70, s72_72, s72_74, s72_75, s72_77, s72_80, s72_83, s72_86, s72_88, gtS HX hs, gt_46 HX, am72, isRf_ref, true_and, and_true, aPs_s, aPs_n, b01_0, b01_1, nI_clamp, ix_nI, inb_nI, lt_nI, eq_nI, nn_nI, eq0_nI, pk_mul, nI_add, lt_T, lt_F, if_true, if_false, true_and, and_true, neg1_nI, neg1_lt, neg1_neg, lt_neg1, eqN_F, eq_self,  n2, b1, esh, hD, c73', c74', nn_nI, h5, c75', g, Bool.not_false, Bool.not_true, Bool.true_and, Bool.false_and, Bool.and_true, Bool.and_false, Bool.or_true, Bool.or_false, Bool.true_or, Bool.false_or, Bool.true_eq_false, Bool.false_eq_true, if_true, if_false, Option.isSome_some, Option.isSome_none, Option.isNone_some, Option.isNone_none, zB_t, zB_f, nI1_0, nI0_0, e, ih']
        · simp only [g, h5, decide_false, Bool.not_false, Bool.not_true, Bool.true_and, Bool.false_and, Bool.and_true, Bool.and_false, Bool.or_true, Bool.or_false, Bool.true_or, Bool.false_or, Bool.true_eq_false, Bool.false_eq_true, if_true, if_false, Option.isSome_some, Option.isSome_none, Option.isNone_some, Option.isNone_none, zB_t, zB_f, nI1_0, nI0_0] at ih'
          simp only [soI, Option.map_none, Option.map_some, oI_n, oI_s] at ih' ⊢
          simp (disch := first | omega | assumption | exact gtS HX hs | exact gt_46 HX | (simp only [gT_pA, gT_pI, gT_pR]; first | assumption | exact gtS HX hs | exact gt_46 HX) | fail) only [s72_0, s72_1, s72_2, s72_5, s72_6, s72_7, s72_10, s72_11, s72_13, s72_14, s72_18, s72_19, s72_20, s72_23, s72_26, s72_27, s72_30, s72_31, s72_33, s72_36, s72_38, s72_39, s72_41, s72_43, s72_46, s72_48, s72_50, s72_53, s72_55, s72_57, s72_60, s72_61, s72_63, s72_64, s72_67, s72_70, s72_72, s72_74, s72_75, s72_77, s72_80, s72_83, s72_86, s72_88, gtS HX hs, gt_46 HX, am72, isRf_ref, true_and, and_true, aPs_s, aPs_n, b01_0, b01_1, nI_clamp, ix_nI, inb_nI, lt_nI, eq_nI, nn_nI, eq0_nI, pk_mul, nI_add, lt_T, lt_F, if_true, if_false, true_and, and_true, neg1_nI, neg1_lt, neg1_neg, lt_neg1, eqN_F, eq_self,  n2, b1, esh, hD, c73', c74', nn_nI, h5, ih']
    · cases x with
      | none =>
        simp only [g, Bool.not_false, Bool.not_true, Bool.true_and, Bool.false_and, Bool.and_true, Bool.and_false, Bool.or_true, Bool.or_false, Bool.true_or, Bool.false_or, Bool.true_eq_false, Bool.false_eq_true, if_true, if_false, Option.isSome_some, Option.isSome_none, Option.isNone_some, Option.isNone_none, zB_t, zB_f, nI1_0, nI0_0] at ih'
        simp only [soI, Option.map_none, Option.map_some, oI_n, oI_s] at ih' ⊢
        simp (disch := first | omega | assumption | exact gtS HX hs | exact gt_46 HX | (simp only [gT_pA, gT_pI, gT_pR]; first | assumption | exact gtS HX hs | exact gt_46 HX) | fail) only [s72_0, s72_1, s72_2, s72_5, s72_6, s72_7, s72_10, s72_11, s72_13, s72_14, s72_18, s72_19, s72_20, s72_23, s72_26, s72_27, s72_30, s72_31, s72_33, s72_36, s72_38, s72_39, s72_41, s72_43, s72_46, s72_48, s72_50, s72_53, s72_55, s72_57, s72_60, s72_61, s72_63, s72_64, s72_67, s72_70, s72_72, s72_74, s72_75, s72_77, s72_80, s72_83, s72_86, s72_88, gtS HX hs, gt_46 HX, am72, isRf_ref, true_and, and_true, aPs_s, aPs_n, b01_0, b01_1, nI_clamp, ix_nI, inb_nI, lt_nI, eq_nI, nn_nI, eq0_nI, pk_mul, nI_add, lt_T, lt_F, if_true, if_false, true_and, and_true, neg1_nI, neg1_lt, neg1_neg, lt_neg1, eqN_F, eq_self,  n2, b1, esh, hD, c73', c74', iflt_m1, c75', g, Bool.not_false, Bool.not_true, Bool.true_and, Bool.false_and, Bool.and_true, Bool.and_false, Bool.or_true, Bool.or_false, Bool.true_or, Bool.false_or, Bool.true_eq_false, Bool.false_eq_true, if_true, if_false, Option.isSome_some, Option.isSome_none, Option.isNone_some, Option.isNone_none, zB_t, zB_f, nI1_0, nI0_0, ih']
      | some y =>
        have hy := hxl y rfl
        by_cases h5 : stN P o (sbN bb D n) rate 12 < y.1
        · simp only [g, h5, decide_true, Bool.not_false, Bool.not_true, Bool.true_and, Bool.false_and, Bool.and_true, Bool.and_false, Bool.or_true, Bool.or_false, Bool.true_or, Bool.false_or, Bool.true_eq_false, Bool.false_eq_true, if_true, if_false, Option.isSome_some, Option.isSome_none, Option.isNone_some, Option.isNone_none, zB_t, zB_f, nI1_0, nI0_0] at ih'
          simp only [soI, Option.map_none, Option.map_some, oI_n, oI_s] at ih' ⊢
          simp (disch := first | omega | assumption | exact gtS HX hs | exact gt_46 HX | (simp only [gT_pA, gT_pI, gT_pR]; first | assumption | exact gtS HX hs | exact gt_46 HX) | fail) only [s72_0, s72_1, s72_2, s72_5, s72_6, s72_7, s72_10, s72_11, s72_13, s72_14, s72_18, s72_19, s72_20, s72_23, s72_26, s72_27, s72_30, s72_31, s72_33, s72_36, s72_38, s72_39, s72_41, s72_43, s72_46, s72_48, s72_50, s72_53, s72_55, s72_57, s72_60, s72_61, s72_63, s72_64, s72_67, s72_70, s72_72, s72_74, s72_75, s72_77, s72_80, s72_83, s72_86, s72_88, gtS HX hs, gt_46 HX, am72, isRf_ref, true_and, and_true, aPs_s, aPs_n, b01_0, b01_1, nI_clamp, ix_nI, inb_nI, lt_nI, eq_nI, nn_nI, eq0_nI, pk_mul, nI_add, lt_T, lt_F, if_true, if_false, true_and, and_true, neg1_nI, neg1_lt, neg1_neg, lt_neg1, eqN_F, eq_self,  n2, b1, esh, hD, c73', c74', nn_nI, h5, c75', g, Bool.not_false, Bool.not_true, Bool.true_and, Bool.false_and, Bool.and_true, Bool.and_false, Bool.or_true, Bool.or_false, Bool.true_or, Bool.false_or, Bool.true_eq_false, Bool.false_eq_true, if_true, if_false, Option.isSome_some, Option.isSome_none, Option.isNone_some, Option.isNone_none, zB_t, zB_f, nI1_0, nI0_0, ih']
        · simp only [g, h5, decide_false, Bool.not_false, Bool.not_true, Bool.true_and, Bool.false_and, Bool.and_true, Bool.and_false, Bool.or_true, Bool.or_false, Bool.true_or, Bool.false_or, Bool.true_eq_false, Bool.false_eq_true, if_true, if_false, Option.isSome_some, Option.isSome_none, Option.isNone_some, Option.isNone_none, zB_t, zB_f, nI1_0, nI0_0] at ih'
          simp only [soI, Option.map_none, Option.map_some, oI_n, oI_s] at ih' ⊢
          simp (disch := first | omega | assumption | exact gtS HX hs | exact gt_46 HX | (simp only [gT_pA, gT_pI, gT_pR]; first | assumption | exact gtS HX hs | exact gt_46 HX) | fail) only [s72_0, s72_1, s72_2, s72_5, s72_6, s72_7, s72_10, s72_11, s72_13, s72_14, s72_18, s72_19, s72_20, s72_23, s72_26, s72_27, s72_30, s72_31, s72_33, s72_36, s72_38, s72_39, s72_41, s72_43, s72_46, s72_48, s72_50, s72_53, s72_55, s72_57, s72_60, s72_61, s72_63, s72_64, s72_67, s72_70, s72_72, s72_74, s72_75, s72_77, s72_80, s72_83, s72_86, s72_88, gtS HX hs, gt_46 HX, am72, isRf_ref, true_and, and_true, aPs_s, aPs_n, b01_0, b01_1, nI_clamp, ix_nI, inb_nI, lt_nI, eq_nI, nn_nI, eq0_nI, pk_mul, nI_add, lt_T, lt_F, if_true, if_false, true_and, and_true, neg1_nI, neg1_lt, neg1_neg, lt_neg1, eqN_F, eq_self,  n2, b1, esh, hD, c73', c74', nn_nI, h5, ih'])
  have l0 := loop 0 (Nat.zero_le _) (.retAddr 0, .retAddr 0)
  simp only [soN, seX_n] at l0
  have H1 : KC (pR h 46 1 (.ref 29)) := KC_pR H (by decide)
  have t1 := gt_46 H1
  have es : pR (pR h 46 1 (.ref 29)) 46 2 (.ref (57 + 2 * s)) = seR h s := rfl
  simp (disch := first | omega | assumption | exact gtS H hs | exact gt_46 H | (simp only [gT_pA, gT_pI, gT_pR]; first | assumption | exact gtS H hs | exact gt_46 H) | fail) only [s72_0, s72_1, s72_2, s72_5, s72_6, s72_7, s72_10, s72_11, s72_13, s72_14, s72_18, s72_19, s72_20, s72_23, s72_26, s72_27, s72_30, s72_31, s72_33, s72_36, s72_38, s72_39, s72_41, s72_43, s72_46, s72_48, s72_50, s72_53, s72_55, s72_57, s72_60, s72_61, s72_63, s72_64, s72_67, s72_70, s72_72, s72_74, s72_75, s72_77, s72_80, s72_83, s72_86, s72_88, gtS H hs, gt_46 H, am72, isRf_ref, true_and, and_true, aPs_s, aPs_n, b01_0, b01_1, nI_clamp, ix_nI, inb_nI, lt_nI, eq_nI, nn_nI, eq0_nI, pk_mul, nI_add, lt_T, lt_F, if_true, if_false, true_and, and_true, neg1_nI, neg1_lt, neg1_neg, lt_neg1, eqN_F, eq_self,  t1, es]
  exact l0
end C14
