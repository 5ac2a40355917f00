/-! THE REFERENCE: reading a text -/
/-- the heap whose text is read: the place, what is told so far -/
def nwF (h : abH) (a : Nat) (A : Nat → Nat → Int32) : Nat → Nat → Int32 := fun o => if 78 ≤ o ∧ o ≤ 87 then A (o - 10) else if o = 65 then upd (upd (gI h 65) 45 (nI a)) 15 (A 65 4) else gI h o
def nwH (h : abH) (a : Nat) (A : Nat → Nat → Int32) : abH := (h.1, nwF h a A, h.2.2)
theorem nwH_I {h : abH} {a o : Nat} {A : Nat → Nat → Int32} : gI (nwH h a A) o = nwF h a A o := rfl
theorem nw_w {h : abH} {a o p k : Nat} {A : Nat → Nat → Int32} {v : Int32} (ho : o = p + 10) (h1 : 68 ≤ p) (h2 : p ≤ 77) : pI (nwH h a A) o k v = nwH h a (upA A p k v) := by
  subst ho
  unfold nwH
  rw [pI_def]
  unfold pA
  congr 2
  funext q
  by_cases e : q = p + 10
  · subst e
    rw [if_pos rfl]
    show upd (nwF h a A (p + 10)) k v = nwF h a (upA A p k v) (p + 10)
    unfold nwF
    rw [if_pos (by omega), if_pos (by omega), show p + 10 - 10 = p by omega, upA_eq]
  · rw [if_neg e]
    show nwF h a A q = nwF h a (upA A p k v) q
    unfold nwF
    by_cases g : 78 ≤ q ∧ q ≤ 87
    · rw [if_pos g, if_pos g, upA_ne (by omega)]
    · rw [if_neg g, if_neg g]
      by_cases g2 : q = 65
      · rw [if_pos g2, if_pos g2, upA_ne (show (65 : Nat) ≠ p by omega)]
      · rw [if_neg g2, if_neg g2]
theorem nw_wa {h : abH} {a a' : Nat} {A : Nat → Nat → Int32} : pI (nwH h a A) 65 45 (nI a') = nwH h a' A := by
  unfold nwH
  rw [pI_def]
  unfold pA
  congr 2
  funext q
  by_cases e : q = 65
  · subst e
    rw [if_pos rfl]
    show upd (nwF h a A 65) 45 (nI a') = nwF h a' A 65
    unfold nwF
    simp only [show ¬ (78 ≤ 65 ∧ 65 ≤ 87) by decide, if_false, if_true]
    rw [upd_comm (show (15 : Nat) ≠ 45 by decide), upd_upd]
  · rw [if_neg e]
    show nwF h a A q = nwF h a' A q
    unfold nwF
    simp only [e, if_false]
theorem nw_ws {h : abH} {a : Nat} {A : Nat → Nat → Int32} {v : Int32} : pI (nwH h a A) 65 15 v = nwH h a (upA A 65 4 v) := by
  unfold nwH
  rw [pI_def]
  unfold pA
  congr 2
  funext q
  by_cases e : q = 65
  · subst e
    rw [if_pos rfl]
    show upd (nwF h a A 65) 15 v = nwF h a (upA A 65 4 v) 65
    unfold nwF
    simp only [show ¬ (78 ≤ 65 ∧ 65 ≤ 87) by decide, if_false, if_true]
    rw [upd_upd, upA_eq, upd_eq]
  · rw [if_neg e]
    show nwF h a A q = nwF h a (upA A 65 4 v) q
    unfold nwF
    by_cases g : 78 ≤ q ∧ q ≤ 87
    · rw [if_pos g, if_pos g, upA_ne (by omega)]
    · rw [if_neg g, if_neg g, if_neg e, if_neg e]
/-- the new arrays as a heap holds them -/
def nwV (h : abH) : Nat → Nat → Int32 := fun o => if 68 ≤ o ∧ o ≤ 77 then gI h (o + 10) else fun k => if k = 4 then gI h 65 15 else 0
theorem nw_start {h : abH} {a : Nat} (ha : gI h 65 45 = nI a) : nwH h a (nwV h) = h := by
  have e : nwF h a (nwV h) = h.2.1 := by
    funext q
    unfold nwF nwV
    by_cases g : 78 ≤ q ∧ q ≤ 87
    · rw [if_pos g, if_pos (by omega), show q - 10 + 10 = q by omega]
      rfl
    · rw [if_neg g]
      by_cases g2 : q = 65
      · subst g2
        simp only [show ¬ (68 ≤ 65 ∧ 65 ≤ 77) by decide, if_false, if_true]
        rw [← ha]
        funext j
        by_cases e1 : j = 15
        · subst e1; rw [upd_eq]; rfl
        · rw [upd_ne e1]
          by_cases e2 : j = 45
          · subst e2; rw [upd_eq]; rfl
          · rw [upd_ne e2]; rfl
      · rw [if_neg g2]
        rfl
  unfold nwH
  rw [e]
theorem w78 {h : abH} {a k : Nat} {A : Nat → Nat → Int32} {v : Int32} : pI (nwH h a A) 78 k v = nwH h a (upA A 68 k v) := nw_w rfl (by omega) (by omega)
theorem w79 {h : abH} {a k : Nat} {A : Nat → Nat → Int32} {v : Int32} : pI (nwH h a A) 79 k v = nwH h a (upA A 69 k v) := nw_w rfl (by omega) (by omega)
theorem w80 {h : abH} {a k : Nat} {A : Nat → Nat → Int32} {v : Int32} : pI (nwH h a A) 80 k v = nwH h a (upA A 70 k v) := nw_w rfl (by omega) (by omega)
theorem w81 {h : abH} {a k : Nat} {A : Nat → Nat → Int32} {v : Int32} : pI (nwH h a A) 81 k v = nwH h a (upA A 71 k v) := nw_w rfl (by omega) (by omega)
theorem w82 {h : abH} {a k : Nat} {A : Nat → Nat → Int32} {v : Int32} : pI (nwH h a A) 82 k v = nwH h a (upA A 72 k v) := nw_w rfl (by omega) (by omega)
theorem w83 {h : abH} {a k : Nat} {A : Nat → Nat → Int32} {v : Int32} : pI (nwH h a A) 83 k v = nwH h a (upA A 73 k v) := nw_w rfl (by omega) (by omega)
theorem w84 {h : abH} {a k : Nat} {A : Nat → Nat → Int32} {v : Int32} : pI (nwH h a A) 84 k v = nwH h a (upA A 74 k v) := nw_w rfl (by omega) (by omega)
theorem w85 {h : abH} {a k : Nat} {A : Nat → Nat → Int32} {v : Int32} : pI (nwH h a A) 85 k v = nwH h a (upA A 75 k v) := nw_w rfl (by omega) (by omega)
theorem w86 {h : abH} {a k : Nat} {A : Nat → Nat → Int32} {v : Int32} : pI (nwH h a A) 86 k v = nwH h a (upA A 76 k v) := nw_w rfl (by omega) (by omega)
theorem w87 {h : abH} {a k : Nat} {A : Nat → Nat → Int32} {v : Int32} : pI (nwH h a A) 87 k v = nwH h a (upA A 77 k v) := nw_w rfl (by omega) (by omega)
theorem r78 {h : abH} {a : Nat} {A : Nat → Nat → Int32} : gI (nwH h a A) 78 = A 68 := rfl
theorem r79 {h : abH} {a : Nat} {A : Nat → Nat → Int32} : gI (nwH h a A) 79 = A 69 := rfl
theorem r82 {h : abH} {a : Nat} {A : Nat → Nat → Int32} : gI (nwH h a A) 82 = A 72 := rfl
theorem r84 {h : abH} {a : Nat} {A : Nat → Nat → Int32} : gI (nwH h a A) 84 = A 74 := rfl
theorem r85 {h : abH} {a : Nat} {A : Nat → Nat → Int32} : gI (nwH h a A) 85 = A 75 := rfl
theorem r87 {h : abH} {a : Nat} {A : Nat → Nat → Int32} : gI (nwH h a A) 87 = A 77 := rfl
theorem rat {h : abH} {a : Nat} {A : Nat → Nat → Int32} : gI (nwH h a A) 65 45 = nI a := rfl
theorem rst {h : abH} {a : Nat} {A : Nat → Nat → Int32} : gI (nwH h a A) 65 15 = A 65 4 := rfl
theorem rtp {h : abH} {a : Nat} {A : Nat → Nat → Int32} : gI (nwH h a A) 66 = gI h 66 := rfl
theorem rtT {h : abH} {a : Nat} {A : Nat → Nat → Int32} : gI (nwH h a A) 65 1 = gI h 65 1 := rfl
/-- what a heap shows of THE TAPE -/
def tpH (h : abH) (c : Nat → Nat) (T : Nat) : Prop := gI h 65 1 = nI T ∧ T ≤ 240 ∧ ∀ j, j < T → gI h 66 j = nI (c j) ∧ c j < 256
theorem hr_lt {h : abH} {c : Nat → Nat} {T a : Nat} (C : tpH h c T) : ∀ j, hr c T a = some j → j < 256 := by
  intro j e
  obtain ⟨h1, h2⟩ := hr_some e
  have := (C.2.2 a h1).2
  omega
section M32
variable {d : Nat} {h : abH} {Q : Option Value → abH → Prop}
theorem c139o {t : Option Nat} {lo hi : Nat} (ht : ∀ j, t = some j → j < 2 ^ 31) (hl : lo < 2 ^ 31) (hh : hi < 2 ^ 31) : aM d 139 [.int (oI t), .int (nI lo), .int (nI hi)] h Q = Q (some (.int (zB (inR t lo hi)))) h := by
  rw [c139]
  cases t with
  | none =>
    have : decide (¬ oI none < nI lo ∧ ¬ nI hi < oI none) = false := decide_eq_false (fun q => q.1 (by rw [oI_n, neg1_lt hl]; trivial))
    rw [this]
    rfl
  | some j =>
    have hj := ht j rfl
    simp only [oI_s, lt_nI hj hl, lt_nI hh hj]
    unfold inR
    congr 4
    by_cases h1 : lo ≤ j <;> by_cases h2 : j ≤ hi <;> simp [h1, h2] <;> omega
theorem c141 (HM : KM h) {c : Nat → Nat} {T a : Nat} (C : tpH h c T) (ha : a ≤ T) {A : Nat → Nat → Int32} : aM d 141 [.ref 65] (nwH h a A) Q = Q (some (.int (oI (hr c T a)))) (nwH h a A) := by
  have HMa : ∀ a A, KM (nwH h a A) := fun _ _ => HM
  obtain ⟨c1, c2, c3⟩ := C
  unfold hr
  by_cases h1 : a < T
  · have c4 := (c3 a h1).1
    simp (disch := first | omega | assumption | exact gt_65 (HMa _ _) | (simp only [gT_pA, gT_pI, gT_pR]; first | assumption | exact gt_65 (HMa _ _)) | fail) only [s141_0, s141_1, s141_4, s141_5, s141_8, s141_11, s141_12, s141_15, s141_16, s141_19, s141_20, s141_23, s141_24, ai_66 (HMa _ _), gr_65_0 (HMa _ _), gt_65 (HMa _ _), am141, isRf_ref, true_and, and_true, aPs_s, aPs_n, b01_0, b01_1, nI_clamp, ix_nI, inb_nI, lt_nI, eq_nI, nn_nI, eq0_nI, pk_mul, nI_add, lt_T, lt_F, if_true, if_false, true_and, and_true, neg1_nI, neg1_lt, neg1_neg, lt_neg1, eqN_F, eq_self,  rat, rtT, rtp, c1, h1, c4, oI_s]
  · simp (disch := first | omega | assumption | exact gt_65 (HMa _ _) | (simp only [gT_pA, gT_pI, gT_pR]; first | assumption | exact gt_65 (HMa _ _)) | fail) only [s141_0, s141_1, s141_4, s141_5, s141_8, s141_11, s141_12, s141_15, s141_16, s141_19, s141_20, s141_23, s141_24, ai_66 (HMa _ _), gr_65_0 (HMa _ _), gt_65 (HMa _ _), am141, isRf_ref, true_and, and_true, aPs_s, aPs_n, b01_0, b01_1, nI_clamp, ix_nI, inb_nI, lt_nI, eq_nI, nn_nI, eq0_nI, pk_mul, nI_add, lt_T, lt_F, if_true, if_false, true_and, and_true, neg1_nI, neg1_lt, neg1_neg, lt_neg1, eqN_F, eq_self,  rat, rtT, rtp, c1, h1, oI_n]
set_option maxHeartbeats 4000000 in
theorem c142 (HM : KM h) {c : Nat → Nat} {T a : Nat} (C : tpH h c T) (ha : a ≤ T) {A : Nat → Nat → Int32} : aM (d + 1) 142 [.ref 65] (nwH h a A) Q = Q (some (.int (oI (nm2 c T a).1))) (nwH h (nm2 c T a).2 A) := by
  have HMa : ∀ a A, KM (nwH h a A) := fun _ _ => HM
  have t65 : ∀ a A, gT (nwH h a A) 65 = some (14, 54) := fun a A => gt_65 (HMa a A)
  have c141' : ∀ a, a ≤ T → ∀ A Q', aM d 141 [.ref 65] (nwH h a A) Q' = Q' (some (.int (oI (hr c T a)))) (nwH h a A) := fun a ha A Q' => c141 HM C ha
  have l31 : ∀ a j, hr c T a = some j → j < 2 ^ 31 := fun a j e => by have := hr_lt C j e; omega
  have i0 : ∀ a A Q', aM d 139 [.int (oI (hr c T a)), .int (nI 48), .int (nI 57)] (nwH h a A) Q' = Q' (some (.int (zB (inR (hr c T a) 48 57)))) (nwH h a A) := fun a A Q' => c139o (l31 a) (by decide) (by decide)
  have lt02 : (0 < 2) = True := by simp
  have lt12 : (1 < 2) = True := by simp
  have lt22 : (2 < 2) = False := by simp
  have z1 : (nI 1 = 0) = False := nI1_0
  have z2 : (nI 2 = 0) = False := nI2_0
  have z0 : (nI 0 = 0) = True := nI0_0
  unfold nm2
  rcases Bool.eq_false_or_eq_true (inR (hr c T a) 48 57) with g1 | g1
  · obtain ⟨k1, k2, k3, k4⟩ := inR_of g1
    have e1 : nI (c a) - nI 48 = nI (c a - 48) := pk_sub k2
    have i1 : ∀ A Q', aM d 139 [.int (nI (c a)), .int (nI 48), .int (nI 57)] (nwH h a A) Q' = Q' (some (.int (zB true))) (nwH h a A) := fun A Q' => by have := i0 a A Q'; rw [k4, oI_s] at this; rw [this, ← k4, g1]
    rcases Bool.eq_false_or_eq_true (inR (hr c T (a + 1)) 48 57) with g2 | g2
    · obtain ⟨q1, q2, q3, q4⟩ := inR_of g2
      have i2 : ∀ A Q', aM d 139 [.int (nI (c (a + 1))), .int (nI 48), .int (nI 57)] (nwH h (a + 1) A) Q' = Q' (some (.int (zB true))) (nwH h (a + 1) A) := fun A Q' => by have := i0 (a + 1) A Q'; rw [q4, oI_s] at this; rw [this, ← q4, g2]
      have e2 : nI (10 * (c a - 48) + c (a + 1)) - nI 48 = nI (10 * (c a - 48) + (c (a + 1) - 48)) := by rw [pk_sub (by omega)]; congr 1; omega
      rw [if_pos g1, if_pos g2]
      simp (disch := first | omega | assumption | exact gt_65 (HMa _ _) | (simp only [gT_pA, gT_pI, gT_pR]; first | assumption | exact gt_65 (HMa _ _)) | fail) only [s142_0, s142_1, s142_2, s142_3, s142_4, s142_5, s142_6, s142_9, s142_10, s142_13, s142_15, s142_17, s142_20, s142_23, s142_25, s142_26, s142_27, s142_28, s142_31, s142_32, s142_34, s142_35, s142_36, s142_39, s142_40, s142_41, s142_44, s142_45, s142_46, s142_49, s142_52, s142_53, s142_56, s142_57, s142_60, s142_61, gt_65 (HMa _ _), am142, isRf_ref, true_and, and_true, aPs_s, aPs_n, b01_0, b01_1, nI_clamp, ix_nI, inb_nI, lt_nI, eq_nI, nn_nI, eq0_nI, pk_mul, nI_add, lt_T, lt_F, if_true, if_false, true_and, and_true, neg1_nI, neg1_lt, neg1_neg, lt_neg1, eqN_F, eq_self,  c141', ha, k1, k4, q1, q4, i1, i2, Bool.not_false, Bool.not_true, Bool.true_and, Bool.false_and, Bool.and_true, Bool.and_false, Bool.or_true, Bool.or_false, Bool.true_or, Bool.false_or, Bool.true_eq_false, Bool.false_eq_true, if_true, if_false, Option.isSome_some, Option.isSome_none, Option.isNone_some, Option.isNone_none, zB_t, zB_f, nI1_0, nI0_0, oI_s, Nat.mul_zero, Nat.zero_add, e1, e2, rat, nw_wa, z0, z1, z2, t65]
    · have i2 : ∀ A Q', aM d 139 [.int (oI (hr c T (a + 1))), .int (nI 48), .int (nI 57)] (nwH h (a + 1) A) Q' = Q' (some (.int (zB false))) (nwH h (a + 1) A) := fun A Q' => by rw [i0 (a + 1) A Q', g2]
      rw [if_pos g1, if_neg (by rw [g2]; decide)]
      simp (disch := first | omega | assumption | exact gt_65 (HMa _ _) | (simp only [gT_pA, gT_pI, gT_pR]; first | assumption | exact gt_65 (HMa _ _)) | fail) only [s142_0, s142_1, s142_2, s142_3, s142_4, s142_5, s142_6, s142_9, s142_10, s142_13, s142_15, s142_17, s142_20, s142_23, s142_25, s142_26, s142_27, s142_28, s142_31, s142_32, s142_34, s142_35, s142_36, s142_39, s142_40, s142_41, s142_44, s142_45, s142_46, s142_49, s142_52, s142_53, s142_56, s142_57, s142_60, s142_61, gt_65 (HMa _ _), am142, isRf_ref, true_and, and_true, aPs_s, aPs_n, b01_0, b01_1, nI_clamp, ix_nI, inb_nI, lt_nI, eq_nI, nn_nI, eq0_nI, pk_mul, nI_add, lt_T, lt_F, if_true, if_false, true_and, and_true, neg1_nI, neg1_lt, neg1_neg, lt_neg1, eqN_F, eq_self,  c141', ha, k1, k4, i1, i2, Bool.not_false, Bool.not_true, Bool.true_and, Bool.false_and, Bool.and_true, Bool.and_false, Bool.or_true, Bool.or_false, Bool.true_or, Bool.false_or, Bool.true_eq_false, Bool.false_eq_true, if_true, if_false, Option.isSome_some, Option.isSome_none, Option.isNone_some, Option.isNone_none, zB_t, zB_f, nI1_0, nI0_0, oI_s, Nat.mul_zero, Nat.zero_add, e1, rat, nw_wa, z0, z1, z2, t65]
  · have i1 : ∀ A Q', aM d 139 [.int (oI (hr c T a)), .int (nI 48), .int (nI 57)] (nwH h a A) Q' = Q' (some (.int (zB false))) (nwH h a A) := fun A Q' => by rw [i0 a A Q', g1]
    rw [if_neg (by rw [g1]; decide)]
    simp (disch := first | omega | assumption | exact gt_65 (HMa _ _) | (simp only [gT_pA, gT_pI, gT_pR]; first | assumption | exact gt_65 (HMa _ _)) | fail) only [s142_0, s142_1, s142_2, s142_3, s142_4, s142_5, s142_6, s142_9, s142_10, s142_13, s142_15, s142_17, s142_20, s142_23, s142_25, s142_26, s142_27, s142_28, s142_31, s142_32, s142_34, s142_35, s142_36, s142_39, s142_40, s142_41, s142_44, s142_45, s142_46, s142_49, s142_52, s142_53, s142_56, s142_57, s142_60, s142_61, gt_65 (HMa _ _), am142, isRf_ref, true_and, and_true, aPs_s, aPs_n, b01_0, b01_1, nI_clamp, ix_nI, inb_nI, lt_nI, eq_nI, nn_nI, eq0_nI, pk_mul, nI_add, lt_T, lt_F, if_true, if_false, true_and, and_true, neg1_nI, neg1_lt, neg1_neg, lt_neg1, eqN_F, eq_self,  c141', ha, i1, Bool.not_false, Bool.not_true, Bool.true_and, Bool.false_and, Bool.and_true, Bool.and_false, Bool.or_true, Bool.or_false, Bool.true_or, Bool.false_or, Bool.true_eq_false, Bool.false_eq_true, if_true, if_false, Option.isSome_some, Option.isSome_none, Option.isNone_some, Option.isNone_none, zB_t, zB_f, nI1_0, nI0_0, z0, oI_n]
set_option maxHeartbeats 4000000 in
theorem c143 (HM : KM h) {c : Nat → Nat} {T a k : Nat} (C : tpH h c T) (ha : a ≤ T) (hk : k < 2 ^ 31) {A : Nat → Nat → Int32} : aM (d + 1) 143 [.ref 65, .int (nI k)] (nwH h a A) Q = Q (some (.int (zB (hr c T a == some k)))) (nwH h (if (hr c T a == some k) = true then a + 1 else a) A) := by
  have HMa : ∀ a A, KM (nwH h a A) := fun _ _ => HM
  have t65 : ∀ a A, gT (nwH h a A) 65 = some (14, 54) := fun a A => gt_65 (HMa a A)
  have c141' : ∀ Q', aM d 141 [.ref 65] (nwH h a A) Q' = Q' (some (.int (oI (hr c T a)))) (nwH h a A) := fun Q' => c141 HM C ha
  have eq := oI_eq (t := hr c T a) (k := k) (fun j e => by have := hr_lt C j e; omega) hk
  rcases Bool.eq_false_or_eq_true (hr c T a == some k) with g | g
  · simp (disch := first | omega | assumption | exact gt_65 (HMa _ _) | (simp only [gT_pA, gT_pI, gT_pR]; first | assumption | exact gt_65 (HMa _ _)) | fail) only [s143_0, s143_1, s143_4, s143_5, s143_8, s143_9, s143_12, s143_13, s143_14, s143_15, s143_16, s143_19, s143_20, s143_23, s143_24, s143_27, s143_28, s143_29, s143_32, s143_33, gt_65 (HMa _ _), am143, isRf_ref, true_and, and_true, aPs_s, aPs_n, b01_0, b01_1, nI_clamp, ix_nI, inb_nI, lt_nI, eq_nI, nn_nI, eq0_nI, pk_mul, nI_add, lt_T, lt_F, if_true, if_false, true_and, and_true, neg1_nI, neg1_lt, neg1_neg, lt_neg1, eqN_F, eq_self,  c141', eq, g, Bool.not_false, Bool.not_true, Bool.true_and, Bool.false_and, Bool.and_true, Bool.and_false, Bool.or_true, Bool.or_false, Bool.true_or, Bool.false_or, Bool.true_eq_false, Bool.false_eq_true, if_true, if_false, Option.isSome_some, Option.isSome_none, Option.isNone_some, Option.isNone_none, zB_t, zB_f, nI1_0, nI0_0, rat, nw_wa, t65]
  · simp (disch := first | omega | assumption | exact gt_65 (HMa _ _) | (simp only [gT_pA, gT_pI, gT_pR]; first | assumption | exact gt_65 (HMa _ _)) | fail) only [s143_0, s143_1, s143_4, s143_5, s143_8, s143_9, s143_12, s143_13, s143_14, s143_15, s143_16, s143_19, s143_20, s143_23, s143_24, s143_27, s143_28, s143_29, s143_32, s143_33, gt_65 (HMa _ _), am143, isRf_ref, true_and, and_true, aPs_s, aPs_n, b01_0, b01_1, nI_clamp, ix_nI, inb_nI, lt_nI, eq_nI, nn_nI, eq0_nI, pk_mul, nI_add, lt_T, lt_F, if_true, if_false, true_and, and_true, neg1_nI, neg1_lt, neg1_neg, lt_neg1, eqN_F, eq_self,  c141', eq, g, Bool.not_false, Bool.not_true, Bool.true_and, Bool.false_and, Bool.and_true, Bool.and_false, Bool.or_true, Bool.or_false, Bool.true_or, Bool.false_or, Bool.true_eq_false, Bool.false_eq_true, if_true, if_false, Option.isSome_some, Option.isSome_none, Option.isNone_some, Option.isNone_none, zB_t, zB_f, nI1_0, nI0_0, rat, nw_wa, t65, Nat.add_zero]
set_option maxHeartbeats 4000000 in
theorem c145 (HM : KM h) {a b : Nat} {A : Nat → Nat → Int32} (hs : A 65 4 = nI (nS A)) (hs2 : nS A ≤ 10) : aM d 145 [.ref 65, .int (nI b)] (nwH h a A) Q = Q (some (.int (zB (mWr A b).isSome))) (nwH h a A) := by
  have HMa : ∀ a A, KM (nwH h a A) := fun _ _ => HM
  unfold mWr
  have loop := for_dn (F := fun k => aW d 145 2 [.ref 65, .int (nI b), .int (nI k)] [] (nwH h a A) Q) (R := fun k => Q (some (.int (zB (fst1 (fun s => A 75 s == nI b) (nS A - k) k).isSome))) (nwH h a A)) (nS A) (by
    rw [s145_2, fst1_end]
    simp (disch := first | omega | assumption | exact gt_65 (HMa _ _) | (simp only [gT_pA, gT_pI, gT_pR]; first | assumption | exact gt_65 (HMa _ _)) | fail) only [s145_0, s145_1, s145_3, s145_4, s145_7, s145_10, s145_11, s145_14, s145_15, s145_16, s145_17, s145_20, s145_21, s145_22, s145_25, s145_28, s145_29, ai_85 (HMa _ _), gr_65_23 (HMa _ _), gt_65 (HMa _ _), am145, isRf_ref, true_and, and_true, aPs_s, aPs_n, b01_0, b01_1, nI_clamp, ix_nI, inb_nI, lt_nI, eq_nI, nn_nI, eq0_nI, pk_mul, nI_add, lt_T, lt_F, if_true, if_false, true_and, and_true, neg1_nI, neg1_lt, neg1_neg, lt_neg1, eqN_F, eq_self,  rst, hs, Nat.lt_irrefl, Bool.not_false, Bool.not_true, Bool.true_and, Bool.false_and, Bool.and_true, Bool.and_false, Bool.or_true, Bool.or_false, Bool.true_or, Bool.false_or, Bool.true_eq_false, Bool.false_eq_true, if_true, if_false, Option.isSome_some, Option.isSome_none, Option.isNone_some, Option.isNone_none, zB_t, zB_f, nI1_0, nI0_0]) (fun k hk ih => by
    rw [s145_2, fst1_step hk]
    by_cases e : A 75 k = nI b
    · simp (disch := first | omega | assumption | exact gt_65 (HMa _ _) | (simp only [gT_pA, gT_pI, gT_pR]; first | assumption | exact gt_65 (HMa _ _)) | fail) only [s145_0, s145_1, s145_3, s145_4, s145_7, s145_10, s145_11, s145_14, s145_15, s145_16, s145_17, s145_20, s145_21, s145_22, s145_25, s145_28, s145_29, ai_85 (HMa _ _), gr_65_23 (HMa _ _), gt_65 (HMa _ _), am145, isRf_ref, true_and, and_true, aPs_s, aPs_n, b01_0, b01_1, nI_clamp, ix_nI, inb_nI, lt_nI, eq_nI, nn_nI, eq0_nI, pk_mul, nI_add, lt_T, lt_F, if_true, if_false, true_and, and_true, neg1_nI, neg1_lt, neg1_neg, lt_neg1, eqN_F, eq_self,  rst, hs, hk, r85, eq_true e, beq_iff_eq, Bool.not_false, Bool.not_true, Bool.true_and, Bool.false_and, Bool.and_true, Bool.and_false, Bool.or_true, Bool.or_false, Bool.true_or, Bool.false_or, Bool.true_eq_false, Bool.false_eq_true, if_true, if_false, Option.isSome_some, Option.isSome_none, Option.isNone_some, Option.isNone_none, zB_t, zB_f, nI1_0, nI0_0]
    · simp (disch := first | omega | assumption | exact gt_65 (HMa _ _) | (simp only [gT_pA, gT_pI, gT_pR]; first | assumption | exact gt_65 (HMa _ _)) | fail) only [s145_0, s145_1, s145_3, s145_4, s145_7, s145_10, s145_11, s145_14, s145_15, s145_16, s145_17, s145_20, s145_21, s145_22, s145_25, s145_28, s145_29, ai_85 (HMa _ _), gr_65_23 (HMa _ _), gt_65 (HMa _ _), am145, isRf_ref, true_and, and_true, aPs_s, aPs_n, b01_0, b01_1, nI_clamp, ix_nI, inb_nI, lt_nI, eq_nI, nn_nI, eq0_nI, pk_mul, nI_add, lt_T, lt_F, if_true, if_false, true_and, and_true, neg1_nI, neg1_lt, neg1_neg, lt_neg1, eqN_F, eq_self,  rst, hs, hk, r85, eq_false e, beq_iff_eq, ih, Bool.not_false, Bool.not_true, Bool.true_and, Bool.false_and, Bool.and_true, Bool.and_false, Bool.or_true, Bool.or_false, Bool.true_or, Bool.false_or, Bool.true_eq_false, Bool.false_eq_true, if_true, if_false, Option.isSome_some, Option.isSome_none, Option.isNone_some, Option.isNone_none, zB_t, zB_f, nI1_0, nI0_0])
  simp (disch := first | omega | assumption | exact gt_65 (HMa _ _) | (simp only [gT_pA, gT_pI, gT_pR]; first | assumption | exact gt_65 (HMa _ _)) | fail) only [s145_0, s145_1, s145_3, s145_4, s145_7, s145_10, s145_11, s145_14, s145_15, s145_16, s145_17, s145_20, s145_21, s145_22, s145_25, s145_28, s145_29, ai_85 (HMa _ _), gr_65_23 (HMa _ _), gt_65 (HMa _ _), am145, isRf_ref, true_and, and_true, aPs_s, aPs_n, b01_0, b01_1, nI_clamp, ix_nI, inb_nI, lt_nI, eq_nI, nn_nI, eq0_nI, pk_mul, nI_add, lt_T, lt_F, if_true, if_false, true_and, and_true, neg1_nI, neg1_lt, neg1_neg, lt_neg1, eqN_F, eq_self, ]
  exact loop 0 (Nat.zero_le _)
set_option maxHeartbeats 4000000 in
theorem c146 (HM : KM h) {a b s n : Nat} {A : Nat → Nat → Int32} (hs : s < 10) (hn : n ≤ 4) : aM d 146 [.ref 65, .int (nI s), .int (nI n), .int (nI b)] (nwH h a A) Q = Q (some (.int (zB (rdN A s n b)))) (nwH h a A) := by
  have HMa : ∀ a A, KM (nwH h a A) := fun _ _ => HM
  unfold rdN
  have loop := for_dn (F := fun k => aW d 146 3 [.ref 65, .int (nI s), .int (nI n), .int (nI b), .int (nI k)] [] (nwH h a A) Q) (R := fun k => Q (some (.int (zB (fst1 (fun k => A 77 (4 * s + k) == nI b) (n - k) k).isSome))) (nwH h a A)) n (by
    rw [s146_3, fst1_end]
    simp (disch := first | omega | assumption | exact gt_65 (HMa _ _) | (simp only [gT_pA, gT_pI, gT_pR]; first | assumption | exact gt_65 (HMa _ _)) | fail) only [s146_0, s146_1, s146_5, s146_6, s146_9, s146_10, s146_13, s146_14, s146_15, s146_16, s146_18, s146_19, s146_20, s146_21, s146_24, s146_25, s146_26, s146_29, s146_32, s146_33, ai_87 (HMa _ _), gr_65_25 (HMa _ _), gt_65 (HMa _ _), am146, isRf_ref, true_and, and_true, aPs_s, aPs_n, b01_0, b01_1, nI_clamp, ix_nI, inb_nI, lt_nI, eq_nI, nn_nI, eq0_nI, pk_mul, nI_add, lt_T, lt_F, if_true, if_false, true_and, and_true, neg1_nI, neg1_lt, neg1_neg, lt_neg1, eqN_F, eq_self,  Nat.lt_irrefl, Bool.not_false, Bool.not_true, Bool.true_and, Bool.false_and, Bool.and_true, Bool.and_false, Bool.or_true, Bool.or_false, Bool.true_or, Bool.false_or, Bool.true_eq_false, Bool.false_eq_true, if_true, if_false, Option.isSome_some, Option.isSome_none, Option.isNone_some, Option.isNone_none, zB_t, zB_f, nI1_0, nI0_0]) (fun k hk ih => by
    rw [s146_3, fst1_step hk]
    by_cases e : A 77 (4 * s + k) = nI b
    · simp (disch := first | omega | assumption | exact gt_65 (HMa _ _) | (simp only [gT_pA, gT_pI, gT_pR]; first | assumption | exact gt_65 (HMa _ _)) | fail) only [s146_0, s146_1, s146_5, s146_6, s146_9, s146_10, s146_13, s146_14, s146_15, s146_16, s146_18, s146_19, s146_20, s146_21, s146_24, s146_25, s146_26, s146_29, s146_32, s146_33, ai_87 (HMa _ _), gr_65_25 (HMa _ _), gt_65 (HMa _ _), am146, isRf_ref, true_and, and_true, aPs_s, aPs_n, b01_0, b01_1, nI_clamp, ix_nI, inb_nI, lt_nI, eq_nI, nn_nI, eq0_nI, pk_mul, nI_add, lt_T, lt_F, if_true, if_false, true_and, and_true, neg1_nI, neg1_lt, neg1_neg, lt_neg1, eqN_F, eq_self,  hk, r87, eq_true e, beq_iff_eq, Bool.not_false, Bool.not_true, Bool.true_and, Bool.false_and, Bool.and_true, Bool.and_false, Bool.or_true, Bool.or_false, Bool.true_or, Bool.false_or, Bool.true_eq_false, Bool.false_eq_true, if_true, if_false, Option.isSome_some, Option.isSome_none, Option.isNone_some, Option.isNone_none, zB_t, zB_f, nI1_0, nI0_0]
    · simp (disch := first | omega | assumption | exact gt_65 (HMa _ _) | (simp only [gT_pA, gT_pI, gT_pR]; first | assumption | exact gt_65 (HMa _ _)) | fail) only [s146_0, s146_1, s146_5, s146_6, s146_9, s146_10, s146_13, s146_14, s146_15, s146_16, s146_18, s146_19, s146_20, s146_21, s146_24, s146_25, s146_26, s146_29, s146_32, s146_33, ai_87 (HMa _ _), gr_65_25 (HMa _ _), gt_65 (HMa _ _), am146, isRf_ref, true_and, and_true, aPs_s, aPs_n, b01_0, b01_1, nI_clamp, ix_nI, inb_nI, lt_nI, eq_nI, nn_nI, eq0_nI, pk_mul, nI_add, lt_T, lt_F, if_true, if_false, true_and, and_true, neg1_nI, neg1_lt, neg1_neg, lt_neg1, eqN_F, eq_self,  hk, r87, eq_false e, beq_iff_eq, ih, Bool.not_false, Bool.not_true, Bool.true_and, Bool.false_and, Bool.and_true, Bool.and_false, Bool.or_true, Bool.or_false, Bool.true_or, Bool.false_or, Bool.true_eq_false, Bool.false_eq_true, if_true, if_false, Option.isSome_some, Option.isSome_none, Option.isNone_some, Option.isNone_none, zB_t, zB_f, nI1_0, nI0_0])
  simp (disch := first | omega | assumption | exact gt_65 (HMa _ _) | (simp only [gT_pA, gT_pI, gT_pR]; first | assumption | exact gt_65 (HMa _ _)) | fail) only [s146_0, s146_1, s146_5, s146_6, s146_9, s146_10, s146_13, s146_14, s146_15, s146_16, s146_18, s146_19, s146_20, s146_21, s146_24, s146_25, s146_26, s146_29, s146_32, s146_33, ai_87 (HMa _ _), gr_65_25 (HMa _ _), gt_65 (HMa _ _), am146, isRf_ref, true_and, and_true, aPs_s, aPs_n, b01_0, b01_1, nI_clamp, ix_nI, inb_nI, lt_nI, eq_nI, nn_nI, eq0_nI, pk_mul, nI_add, lt_T, lt_F, if_true, if_false, true_and, and_true, neg1_nI, neg1_lt, neg1_neg, lt_neg1, eqN_F, eq_self, ]
  exact loop 0 (Nat.zero_le _)
set_option maxHeartbeats 8000000 in
theorem c144_4 (HM : KM h) {c : Nat → Nat} {T b : Nat} (C : tpH h c T) (hb : b < 12) : ∀ {m n a : Nat} {A : Nat → Nat → Int32} {l4 : Value}, n + m = 4 → a ≤ T → aW (d + 2) 144 4 [.ref 65, .int (nI b), .int (nI n), .int (nI 1), l4] [] (nwH h a A) Q = Q (some (.int (zB (rsN c T b m n a A).1))) (nwH h (rsN c T b m n a A).2.1 (rsN c T b m n a A).2.2) := by
  have HMa : ∀ a A, KM (nwH h a A) := fun _ _ => HM
  have t65 : ∀ a A, gT (nwH h a A) 65 = some (14, 54) := fun a A => gt_65 (HMa a A)
  have l31 : ∀ a j, hr c T a = some j → j < 2 ^ 31 := fun a j e => by have := hr_lt C j e; omega
  have z1 : (nI 1 = 0) = False := nI1_0
  intro m
  induction m with
  | zero =>
    intro n a A l4 hn ha
    have hn : n = 4 := by omega
    subst hn
    rw [s144_4, rsN]
    simp (disch := first | omega | assumption | exact gt_65 (HMa _ _) | (simp only [gT_pA, gT_pI, gT_pR]; first | assumption | exact gt_65 (HMa _ _)) | fail) only [s144_0, s144_1, s144_2, s144_3, s144_5, s144_8, s144_9, s144_10, s144_13, s144_14, s144_17, s144_20, s144_21, s144_23, s144_25, s144_26, s144_29, s144_30, s144_31, s144_32, s144_35, s144_36, s144_37, s144_38, s144_39, s144_40, s144_42, s144_43, s144_44, s144_47, s144_48, s144_49, s144_50, s144_51, s144_52, s144_53, s144_56, s144_58, s144_60, s144_63, s144_66, s144_67, s144_70, s144_72, s144_73, s144_76, s144_77, s144_78, s144_79, s144_80, s144_83, s144_84, s144_87, s144_89, s144_91, s144_94, s144_97, s144_98, s144_101, s144_102, s144_103, s144_106, s144_109, s144_110, s144_112, s144_115, s144_116, s144_119, s144_120, s144_123, s144_124, s144_125, s144_126, s144_127, s144_130, s144_131, s144_132, s144_133, s144_134, s144_137, s144_138, s144_139, s144_140, s144_141, aj_79 (HMa _ _), aj_80 (HMa _ _), aj_81 (HMa _ _), az_78 (HMa _ _), az_82 (HMa _ _), gr_65_16 (HMa _ _), gr_65_17 (HMa _ _), gr_65_18 (HMa _ _), gr_65_19 (HMa _ _), gr_65_20 (HMa _ _), gt_65 (HMa _ _), am144, isRf_ref, true_and, and_true, aPs_s, aPs_n, b01_0, b01_1, nI_clamp, ix_nI, inb_nI, lt_nI, eq_nI, nn_nI, eq0_nI, pk_mul, nI_add, lt_T, lt_F, if_true, if_false, true_and, and_true, neg1_nI, neg1_lt, neg1_neg, lt_neg1, eqN_F, eq_self,  z1, Nat.lt_irrefl, Bool.not_false, Bool.not_true, Bool.true_and, Bool.false_and, Bool.and_true, Bool.and_false, Bool.or_true, Bool.or_false, Bool.true_or, Bool.false_or, Bool.true_eq_false, Bool.false_eq_true, if_true, if_false, Option.isSome_some, Option.isSome_none, Option.isNone_some, Option.isNone_none, zB_t, zB_f, nI1_0, nI0_0]
  | succ m ih =>
    intro n a A l4 hn ha
    have n4 : n < 4 := by omega
    have c142' : ∀ Q', aM (d + 1) 142 [.ref 65] (nwH h a A) Q' = Q' (some (.int (oI (nm2 c T a).1))) (nwH h (nm2 c T a).2 A) := fun Q' => c142 HM C ha
    obtain ⟨h1, h2, h3⟩ := nm2_ok (c := c) ha
    rw [s144_4, rsN]
    cases hq : (nm2 c T a).1 with
    | none =>
      simp (disch := first | omega | assumption | exact gt_65 (HMa _ _) | (simp only [gT_pA, gT_pI, gT_pR]; first | assumption | exact gt_65 (HMa _ _)) | fail) only [s144_0, s144_1, s144_2, s144_3, s144_5, s144_8, s144_9, s144_10, s144_13, s144_14, s144_17, s144_20, s144_21, s144_23, s144_25, s144_26, s144_29, s144_30, s144_31, s144_32, s144_35, s144_36, s144_37, s144_38, s144_39, s144_40, s144_42, s144_43, s144_44, s144_47, s144_48, s144_49, s144_50, s144_51, s144_52, s144_53, s144_56, s144_58, s144_60, s144_63, s144_66, s144_67, s144_70, s144_72, s144_73, s144_76, s144_77, s144_78, s144_79, s144_80, s144_83, s144_84, s144_87, s144_89, s144_91, s144_94, s144_97, s144_98, s144_101, s144_102, s144_103, s144_106, s144_109, s144_110, s144_112, s144_115, s144_116, s144_119, s144_120, s144_123, s144_124, s144_125, s144_126, s144_127, s144_130, s144_131, s144_132, s144_133, s144_134, s144_137, s144_138, s144_139, s144_140, s144_141, aj_79 (HMa _ _), aj_80 (HMa _ _), aj_81 (HMa _ _), az_78 (HMa _ _), az_82 (HMa _ _), gr_65_16 (HMa _ _), gr_65_17 (HMa _ _), gr_65_18 (HMa _ _), gr_65_19 (HMa _ _), gr_65_20 (HMa _ _), gt_65 (HMa _ _), am144, isRf_ref, true_and, and_true, aPs_s, aPs_n, b01_0, b01_1, nI_clamp, ix_nI, inb_nI, lt_nI, eq_nI, nn_nI, eq0_nI, pk_mul, nI_add, lt_T, lt_F, if_true, if_false, true_and, and_true, neg1_nI, neg1_lt, neg1_neg, lt_neg1, eqN_F, eq_self,  z1, n4, c142', hq, oI_n, Bool.not_false, Bool.not_true, Bool.true_and, Bool.false_and, Bool.and_true, Bool.and_false, Bool.or_true, Bool.or_false, Bool.true_or, Bool.false_or, Bool.true_eq_false, Bool.false_eq_true, if_true, if_false, Option.isSome_some, Option.isSome_none, Option.isNone_some, Option.isNone_none, zB_t, zB_f, nI1_0, nI0_0]
    | some v =>
      have hv := h3 v hq
      generalize hga : (nm2 c T a).2 = a1 at h1 h2 c142' ⊢
      obtain ⟨k1, k2⟩ := ltA_ok (c := c) h1
      have c141' : ∀ A Q', aM (d + 1) 141 [.ref 65] (nwH h a1 A) Q' = Q' (some (.int (oI (hr c T a1)))) (nwH h a1 A) := fun A Q' => c141 HM C h1
      have i1 : ∀ A Q', aM (d + 1) 139 [.int (oI (hr c T a1)), .int (nI 65), .int (nI 68)] (nwH h a1 A) Q' = Q' (some (.int (zB (inR (hr c T a1) 65 68)))) (nwH h a1 A) := fun A Q' => c139o (l31 a1) (by decide) (by decide)
      have c143' : ∀ A Q', aM (d + 1) 143 [.ref 65, .int (nI 43)] (nwH h (ltA c T a1) A) Q' = Q' (some (.int (zB (hr c T (ltA c T a1) == some 43)))) (nwH h (if (hr c T (ltA c T a1) == some 43) = true then ltA c T a1 + 1 else ltA c T a1) A) := fun A Q' => c143 HM C k1 (by decide)
      unfold ltA at c143' k1 k2 ⊢
      unfold ltO
      rcases Bool.eq_false_or_eq_true (inR (hr c T a1) 65 68) with g1 | g1
      · obtain ⟨q1, q2, q3, q4⟩ := inR_of g1
        have e1 : nI (c a1) - nI 65 = nI (c a1 - 65) := pk_sub q2
        rw [q4, oI_s, ← q4] at i1
        rw [q4, oI_s] at c141'
        simp only [g1, if_true] at c143' k1 k2 ⊢
        have ih2 := fun l4 => ih (n := n + 1) (a := a1 + 1 + 1) (A := upA (upA A 70 (4 * b + n) (nI v)) 71 (4 * b + n) (nI (c a1 - 65))) (l4 := l4)
        rcases Bool.eq_false_or_eq_true (hr c T (a1 + 1) == some 43) with g2 | g2
        · have := (hr_some (eq_of_beq g2)).1
          simp only [g2, if_true] at c143' ⊢
          have ih3 := fun l4 => ih2 l4 (by omega) (by omega)
          simp (disch := first | omega | assumption | exact gt_65 (HMa _ _) | (simp only [gT_pA, gT_pI, gT_pR]; first | assumption | exact gt_65 (HMa _ _)) | fail) only [s144_0, s144_1, s144_2, s144_3, s144_5, s144_8, s144_9, s144_10, s144_13, s144_14, s144_17, s144_20, s144_21, s144_23, s144_25, s144_26, s144_29, s144_30, s144_31, s144_32, s144_35, s144_36, s144_37, s144_38, s144_39, s144_40, s144_42, s144_43, s144_44, s144_47, s144_48, s144_49, s144_50, s144_51, s144_52, s144_53, s144_56, s144_58, s144_60, s144_63, s144_66, s144_67, s144_70, s144_72, s144_73, s144_76, s144_77, s144_78, s144_79, s144_80, s144_83, s144_84, s144_87, s144_89, s144_91, s144_94, s144_97, s144_98, s144_101, s144_102, s144_103, s144_106, s144_109, s144_110, s144_112, s144_115, s144_116, s144_119, s144_120, s144_123, s144_124, s144_125, s144_126, s144_127, s144_130, s144_131, s144_132, s144_133, s144_134, s144_137, s144_138, s144_139, s144_140, s144_141, aj_79 (HMa _ _), aj_80 (HMa _ _), aj_81 (HMa _ _), az_78 (HMa _ _), az_82 (HMa _ _), gr_65_16 (HMa _ _), gr_65_17 (HMa _ _), gr_65_18 (HMa _ _), gr_65_19 (HMa _ _), gr_65_20 (HMa _ _), gt_65 (HMa _ _), am144, isRf_ref, true_and, and_true, aPs_s, aPs_n, b01_0, b01_1, nI_clamp, ix_nI, inb_nI, lt_nI, eq_nI, nn_nI, eq0_nI, pk_mul, nI_add, lt_T, lt_F, if_true, if_false, true_and, and_true, neg1_nI, neg1_lt, neg1_neg, lt_neg1, eqN_F, eq_self,  z1, n4, c142', hq, oI_s, c141', i1, g1, Bool.not_false, Bool.not_true, Bool.true_and, Bool.false_and, Bool.and_true, Bool.and_false, Bool.or_true, Bool.or_false, Bool.true_or, Bool.false_or, Bool.true_eq_false, Bool.false_eq_true, if_true, if_false, Option.isSome_some, Option.isSome_none, Option.isNone_some, Option.isNone_none, zB_t, zB_f, nI1_0, nI0_0, w80, w81, rat, nw_wa, t65, e1, c143', ih3]
        · simp only [g2, if_false, Bool.false_eq_true] at c143' ⊢
          simp (disch := first | omega | assumption | exact gt_65 (HMa _ _) | (simp only [gT_pA, gT_pI, gT_pR]; first | assumption | exact gt_65 (HMa _ _)) | fail) only [s144_0, s144_1, s144_2, s144_3, s144_5, s144_8, s144_9, s144_10, s144_13, s144_14, s144_17, s144_20, s144_21, s144_23, s144_25, s144_26, s144_29, s144_30, s144_31, s144_32, s144_35, s144_36, s144_37, s144_38, s144_39, s144_40, s144_42, s144_43, s144_44, s144_47, s144_48, s144_49, s144_50, s144_51, s144_52, s144_53, s144_56, s144_58, s144_60, s144_63, s144_66, s144_67, s144_70, s144_72, s144_73, s144_76, s144_77, s144_78, s144_79, s144_80, s144_83, s144_84, s144_87, s144_89, s144_91, s144_94, s144_97, s144_98, s144_101, s144_102, s144_103, s144_106, s144_109, s144_110, s144_112, s144_115, s144_116, s144_119, s144_120, s144_123, s144_124, s144_125, s144_126, s144_127, s144_130, s144_131, s144_132, s144_133, s144_134, s144_137, s144_138, s144_139, s144_140, s144_141, aj_79 (HMa _ _), aj_80 (HMa _ _), aj_81 (HMa _ _), az_78 (HMa _ _), az_82 (HMa _ _), gr_65_16 (HMa _ _), gr_65_17 (HMa _ _), gr_65_18 (HMa _ _), gr_65_19 (HMa _ _), gr_65_20 (HMa _ _), gt_65 (HMa _ _), am144, isRf_ref, true_and, and_true, aPs_s, aPs_n, b01_0, b01_1, nI_clamp, ix_nI, inb_nI, lt_nI, eq_nI, nn_nI, eq0_nI, pk_mul, nI_add, lt_T, lt_F, if_true, if_false, true_and, and_true, neg1_nI, neg1_lt, neg1_neg, lt_neg1, eqN_F, eq_self,  z1, n4, c142', hq, oI_s, c141', i1, g1, Bool.not_false, Bool.not_true, Bool.true_and, Bool.false_and, Bool.and_true, Bool.and_false, Bool.or_true, Bool.or_false, Bool.true_or, Bool.false_or, Bool.true_eq_false, Bool.false_eq_true, if_true, if_false, Option.isSome_some, Option.isSome_none, Option.isNone_some, Option.isNone_none, zB_t, zB_f, nI1_0, nI0_0, w80, w81, rat, nw_wa, t65, e1, c143']
          rw [s144_4]
          simp (disch := first | omega | assumption | exact gt_65 (HMa _ _) | (simp only [gT_pA, gT_pI, gT_pR]; first | assumption | exact gt_65 (HMa _ _)) | fail) only [s144_0, s144_1, s144_2, s144_3, s144_5, s144_8, s144_9, s144_10, s144_13, s144_14, s144_17, s144_20, s144_21, s144_23, s144_25, s144_26, s144_29, s144_30, s144_31, s144_32, s144_35, s144_36, s144_37, s144_38, s144_39, s144_40, s144_42, s144_43, s144_44, s144_47, s144_48, s144_49, s144_50, s144_51, s144_52, s144_53, s144_56, s144_58, s144_60, s144_63, s144_66, s144_67, s144_70, s144_72, s144_73, s144_76, s144_77, s144_78, s144_79, s144_80, s144_83, s144_84, s144_87, s144_89, s144_91, s144_94, s144_97, s144_98, s144_101, s144_102, s144_103, s144_106, s144_109, s144_110, s144_112, s144_115, s144_116, s144_119, s144_120, s144_123, s144_124, s144_125, s144_126, s144_127, s144_130, s144_131, s144_132, s144_133, s144_134, s144_137, s144_138, s144_139, s144_140, s144_141, aj_79 (HMa _ _), aj_80 (HMa _ _), aj_81 (HMa _ _), az_78 (HMa _ _), az_82 (HMa _ _), gr_65_16 (HMa _ _), gr_65_17 (HMa _ _), gr_65_18 (HMa _ _), gr_65_19 (HMa _ _), gr_65_20 (HMa _ _), gt_65 (HMa _ _), am144, isRf_ref, true_and, and_true, aPs_s, aPs_n, b01_0, b01_1, nI_clamp, ix_nI, inb_nI, lt_nI, eq_nI, nn_nI, eq0_nI, pk_mul, nI_add, lt_T, lt_F, if_true, if_false, true_and, and_true, neg1_nI, neg1_lt, neg1_neg, lt_neg1, eqN_F, eq_self,  nI0_0, w79, w78, w82, t65, b01_1, b01_0]
      · simp only [g1, if_false, Bool.false_eq_true] at c143' k1 k2 ⊢
        have ih2 := fun l4 => ih (n := n + 1) (a := a1 + 1) (A := upA (upA A 70 (4 * b + n) (nI v)) 71 (4 * b + n) (oI none)) (l4 := l4)
        rcases Bool.eq_false_or_eq_true (hr c T a1 == some 43) with g2 | g2
        · have := (hr_some (eq_of_beq g2)).1
          simp only [g2, if_true] at c143' ⊢
          have ih3 := fun l4 => ih2 l4 (by omega) (by omega)
          simp (disch := first | omega | assumption | exact gt_65 (HMa _ _) | (simp only [gT_pA, gT_pI, gT_pR]; first | assumption | exact gt_65 (HMa _ _)) | fail) only [s144_0, s144_1, s144_2, s144_3, s144_5, s144_8, s144_9, s144_10, s144_13, s144_14, s144_17, s144_20, s144_21, s144_23, s144_25, s144_26, s144_29, s144_30, s144_31, s144_32, s144_35, s144_36, s144_37, s144_38, s144_39, s144_40, s144_42, s144_43, s144_44, s144_47, s144_48, s144_49, s144_50, s144_51, s144_52, s144_53, s144_56, s144_58, s144_60, s144_63, s144_66, s144_67, s144_70, s144_72, s144_73, s144_76, s144_77, s144_78, s144_79, s144_80, s144_83, s144_84, s144_87, s144_89, s144_91, s144_94, s144_97, s144_98, s144_101, s144_102, s144_103, s144_106, s144_109, s144_110, s144_112, s144_115, s144_116, s144_119, s144_120, s144_123, s144_124, s144_125, s144_126, s144_127, s144_130, s144_131, s144_132, s144_133, s144_134, s144_137, s144_138, s144_139, s144_140, s144_141, aj_79 (HMa _ _), aj_80 (HMa _ _), aj_81 (HMa _ _), az_78 (HMa _ _), az_82 (HMa _ _), gr_65_16 (HMa _ _), gr_65_17 (HMa _ _), gr_65_18 (HMa _ _), gr_65_19 (HMa _ _), gr_65_20 (HMa _ _), gt_65 (HMa _ _), am144, isRf_ref, true_and, and_true, aPs_s, aPs_n, b01_0, b01_1, nI_clamp, ix_nI, inb_nI, lt_nI, eq_nI, nn_nI, eq0_nI, pk_mul, nI_add, lt_T, lt_F, if_true, if_false, true_and, and_true, neg1_nI, neg1_lt, neg1_neg, lt_neg1, eqN_F, eq_self,  z1, n4, c142', hq, oI_s, c141', i1, g1, Bool.not_false, Bool.not_true, Bool.true_and, Bool.false_and, Bool.and_true, Bool.and_false, Bool.or_true, Bool.or_false, Bool.true_or, Bool.false_or, Bool.true_eq_false, Bool.false_eq_true, if_true, if_false, Option.isSome_some, Option.isSome_none, Option.isNone_some, Option.isNone_none, zB_t, zB_f, nI1_0, nI0_0, w80, w81, rat, nw_wa, t65, Nat.add_zero, c143', oI_n]
          simp only [oI_n] at ih3
          rw [ih3]
        · simp only [g2, if_false, Bool.false_eq_true] at c143' ⊢
          simp (disch := first | omega | assumption | exact gt_65 (HMa _ _) | (simp only [gT_pA, gT_pI, gT_pR]; first | assumption | exact gt_65 (HMa _ _)) | fail) only [s144_0, s144_1, s144_2, s144_3, s144_5, s144_8, s144_9, s144_10, s144_13, s144_14, s144_17, s144_20, s144_21, s144_23, s144_25, s144_26, s144_29, s144_30, s144_31, s144_32, s144_35, s144_36, s144_37, s144_38, s144_39, s144_40, s144_42, s144_43, s144_44, s144_47, s144_48, s144_49, s144_50, s144_51, s144_52, s144_53, s144_56, s144_58, s144_60, s144_63, s144_66, s144_67, s144_70, s144_72, s144_73, s144_76, s144_77, s144_78, s144_79, s144_80, s144_83, s144_84, s144_87, s144_89, s144_91, s144_94, s144_97, s144_98, s144_101, s144_102, s144_103, s144_106, s144_109, s144_110, s144_112, s144_115, s144_116, s144_119, s144_120, s144_123, s144_124, s144_125, s144_126, s144_127, s144_130, s144_131, s144_132, s144_133, s144_134, s144_137, s144_138, s144_139, s144_140, s144_141, aj_79 (HMa _ _), aj_80 (HMa _ _), aj_81 (HMa _ _), az_78 (HMa _ _), az_82 (HMa _ _), gr_65_16 (HMa _ _), gr_65_17 (HMa _ _), gr_65_18 (HMa _ _), gr_65_19 (HMa _ _), gr_65_20 (HMa _ _), gt_65 (HMa _ _), am144, isRf_ref, true_and, and_true, aPs_s, aPs_n, b01_0, b01_1, nI_clamp, ix_nI, inb_nI, lt_nI, eq_nI, nn_nI, eq0_nI, pk_mul, nI_add, lt_T, lt_F, if_true, if_false, true_and, and_true, neg1_nI, neg1_lt, neg1_neg, lt_neg1, eqN_F, eq_self,  z1, n4, c142', hq, oI_s, c141', i1, g1, Bool.not_false, Bool.not_true, Bool.true_and, Bool.false_and, Bool.and_true, Bool.and_false, Bool.or_true, Bool.or_false, Bool.true_or, Bool.false_or, Bool.true_eq_false, Bool.false_eq_true, if_true, if_false, Option.isSome_some, Option.isSome_none, Option.isNone_some, Option.isNone_none, zB_t, zB_f, nI1_0, nI0_0, w80, w81, rat, nw_wa, t65, Nat.add_zero, c143', oI_n]
          rw [s144_4]
          simp (disch := first | omega | assumption | exact gt_65 (HMa _ _) | (simp only [gT_pA, gT_pI, gT_pR]; first | assumption | exact gt_65 (HMa _ _)) | fail) only [s144_0, s144_1, s144_2, s144_3, s144_5, s144_8, s144_9, s144_10, s144_13, s144_14, s144_17, s144_20, s144_21, s144_23, s144_25, s144_26, s144_29, s144_30, s144_31, s144_32, s144_35, s144_36, s144_37, s144_38, s144_39, s144_40, s144_42, s144_43, s144_44, s144_47, s144_48, s144_49, s144_50, s144_51, s144_52, s144_53, s144_56, s144_58, s144_60, s144_63, s144_66, s144_67, s144_70, s144_72, s144_73, s144_76, s144_77, s144_78, s144_79, s144_80, s144_83, s144_84, s144_87, s144_89, s144_91, s144_94, s144_97, s144_98, s144_101, s144_102, s144_103, s144_106, s144_109, s144_110, s144_112, s144_115, s144_116, s144_119, s144_120, s144_123, s144_124, s144_125, s144_126, s144_127, s144_130, s144_131, s144_132, s144_133, s144_134, s144_137, s144_138, s144_139, s144_140, s144_141, aj_79 (HMa _ _), aj_80 (HMa _ _), aj_81 (HMa _ _), az_78 (HMa _ _), az_82 (HMa _ _), gr_65_16 (HMa _ _), gr_65_17 (HMa _ _), gr_65_18 (HMa _ _), gr_65_19 (HMa _ _), gr_65_20 (HMa _ _), gt_65 (HMa _ _), am144, isRf_ref, true_and, and_true, aPs_s, aPs_n, b01_0, b01_1, nI_clamp, ix_nI, inb_nI, lt_nI, eq_nI, nn_nI, eq0_nI, pk_mul, nI_add, lt_T, lt_F, if_true, if_false, true_and, and_true, neg1_nI, neg1_lt, neg1_neg, lt_neg1, eqN_F, eq_self,  nI0_0, w79, w78, w82, t65, b01_1, b01_0, oI_n]
end M32
