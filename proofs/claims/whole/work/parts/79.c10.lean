/-! THE CLASS: Floor -/
/-- the lowest BUFFER at or above a cell, as a number of it -/
def loC (P : Nat → Nat → Int32) (L : Nat → Option Nat) (x b y : Nat) (acc : Option Nat) : Bool := decide (x ≤ y) && (decide (0 < zS P b) && (match acc with
  | none => true
  | some a => decide (y < (L a).getD 0)))
def loF (P : Nat → Nat → Int32) (L : Nat → Option Nat) (x : Nat) : Nat → Option Nat
  | 0 => none
  | b + 1 => match L b with
    | none => loF P L x b
    | some y => if loC P L x b y (loF P L x b) = true then some b else loF P L x b
theorem loF_ok {P : Nat → Nat → Int32} {L : Nat → Option Nat} {x : Nat} : ∀ {n a : Nat}, loF P L x n = some a → a < n ∧ 0 < zS P a ∧ ∃ y, L a = some y ∧ nxF P L x n = some y := by
  intro n
  induction n with
  | zero => intro a e; cases e
  | succ n ih =>
    intro a e
    rw [loF] at e
    rw [nxF]
    cases hx : L n with
    | none =>
      rw [hx] at e
      obtain ⟨h1, h2, y, h3, h4⟩ := ih e
      exact ⟨by omega, h2, y, h3, h4⟩
    | some y =>
      rw [hx] at e
      simp only at e ⊢
      have cc : loC P L x n y (loF P L x n) = nxB P x n y (nxF P L x n) := by
        unfold loC nxB
        congr 2
        cases hq : loF P L x n with
        | none =>
          have : nxF P L x n = none := by
            cases hr : nxF P L x n with
            | none => rfl
            | some z =>
              exfalso
              -- what is next is the place of some BUFFER
              have key : ∀ m, loF P L x m = none → nxF P L x m = none := by
                intro m
                induction m with
                | zero => intro _; rfl
                | succ m ih2 =>
                  intro h
                  rw [loF] at h
                  rw [nxF]
                  cases hm : L m with
                  | none => rw [hm] at h; exact ih2 h
                  | some w =>
                    rw [hm] at h
                    simp only at h ⊢
                    split at h
                    · cases h
                    · rename_i g
                      have h2 := ih2 h
                      rw [h2]
                      rw [h] at g
                      rw [if_neg]
                      exact g
              rw [key n hq] at hr
              cases hr
          rw [this]
        | some c =>
          obtain ⟨_, _, z, h3, h4⟩ := ih hq
          rw [h4]
          simp only [h3, Option.getD_some]
      rw [cc] at e
      split at e
      · rename_i g
        cases e
        rw [if_pos g]
        unfold nxB at g
        rw [Bool.and_eq_true, Bool.and_eq_true, decide_eq_true_iff, decide_eq_true_iff] at g
        exact ⟨by omega, g.2.1, y, hx, rfl⟩
      · rename_i g
        rw [if_neg g]
        obtain ⟨h1, h2, z, h3, h4⟩ := ih e
        exact ⟨by omega, h2, z, h3, h4⟩
theorem loF_none {P : Nat → Nat → Int32} {L : Nat → Option Nat} {x : Nat} : ∀ {m : Nat}, loF P L x m = none → nxF P L x m = none := by
  intro m
  induction m with
  | zero => intro _; rfl
  | succ m ih =>
    intro h
    rw [loF] at h
    rw [nxF]
    cases hm : L m with
    | none => rw [hm] at h; exact ih h
    | some w =>
      rw [hm] at h
      simp only at h ⊢
      split at h
      · cases h
      · rename_i g
        rw [ih h]
        rw [h] at g
        rw [if_neg]
        exact g
section C10
variable {d p : Nat} {h : abH} {Q : Option Value → abH → Prop}
set_option maxHeartbeats 4000000 in
theorem c9 (H : KC h) {P : Nat → Nat → Int32} (V : okP P) (hz : ∀ b, b < 12 → gI h 31 b = nI (zS P b)) {L : Nat → Option Nat} {B : Nat} (hL : ∀ b, b < 12 → gI h 51 b = oI (L b)) (hB : LB P L B) (hB2 : B < 2 ^ 30) : aM (d + 1) 9 [.ref 50, .ref 31] h Q = Q (some (.int (nI (tpF P L 12)))) h := by
  have a31 := ai_31 H
  have loop := for_0 (F := fun b => aW (d + 1) 9 4 [.ref 50, .ref 31, .int (nI (tpF P L b)), .int (nI b)] [] h Q) (R := Q (some (.int (nI (tpF P L 12)))) h) 12 (by
    rw [s9_4]
    simp (disch := first | omega | assumption | exact gt_50 H | (simp only [gT_pA, gT_pI, gT_pR]; first | assumption | exact gt_50 H) | fail) only [s9_0, s9_1, s9_2, s9_3, s9_5, s9_7, s9_10, s9_11, s9_14, s9_15, s9_16, s9_19, s9_20, s9_21, s9_24, s9_25, s9_26, s9_27, s9_28, s9_29, s9_30, s9_33, s9_34, s9_37, s9_40, s9_41, ai_31 H, ai_51 H, gr_50_3 H, gt_50 H, am9, isRf_ref, true_and, and_true, aPs_s, aPs_n, b01_0, b01_1, nI_clamp, ix_nI, inb_nI, lt_nI, eq_nI, nn_nI, eq0_nI, pk_mul, nI_add, lt_T, lt_F, if_true, if_false, true_and, and_true, neg1_nI, neg1_lt, neg1_neg, lt_neg1, eqN_F, eq_self,  Nat.lt_irrefl]) (fun b hb => by
    have hb2 := hL b hb
    have hzb := hz b hb
    have ht := tpF_le hB (n := b) (by omega)
    rw [s9_4, tpF]
    cases hx : L b with
    | none =>
      rw [hx] at hb2
      simp (disch := first | omega | assumption | exact gt_50 H | (simp only [gT_pA, gT_pI, gT_pR]; first | assumption | exact gt_50 H) | fail) only [s9_0, s9_1, s9_2, s9_3, s9_5, s9_7, s9_10, s9_11, s9_14, s9_15, s9_16, s9_19, s9_20, s9_21, s9_24, s9_25, s9_26, s9_27, s9_28, s9_29, s9_30, s9_33, s9_34, s9_37, s9_40, s9_41, ai_31 H, ai_51 H, gr_50_3 H, gt_50 H, am9, isRf_ref, true_and, and_true, aPs_s, aPs_n, b01_0, b01_1, nI_clamp, ix_nI, inb_nI, lt_nI, eq_nI, nn_nI, eq0_nI, pk_mul, nI_add, lt_T, lt_F, if_true, if_false, true_and, and_true, neg1_nI, neg1_lt, neg1_neg, lt_neg1, eqN_F, eq_self,  hb, hb2, oI_n, iflt_m1]
    | some x =>
      rw [hx] at hb2
      have h1 := hB b hb x hx
      have e1 := iMax_nI (a := tpF P L b) (b := x + zS P b) (by omega) (by omega)
      simp (disch := first | omega | assumption | exact gt_50 H | (simp only [gT_pA, gT_pI, gT_pR]; first | assumption | exact gt_50 H) | fail) only [s9_0, s9_1, s9_2, s9_3, s9_5, s9_7, s9_10, s9_11, s9_14, s9_15, s9_16, s9_19, s9_20, s9_21, s9_24, s9_25, s9_26, s9_27, s9_28, s9_29, s9_30, s9_33, s9_34, s9_37, s9_40, s9_41, ai_31 H, ai_51 H, gr_50_3 H, gt_50 H, am9, isRf_ref, true_and, and_true, aPs_s, aPs_n, b01_0, b01_1, nI_clamp, ix_nI, inb_nI, lt_nI, eq_nI, nn_nI, eq0_nI, pk_mul, nI_add, lt_T, lt_F, if_true, if_false, true_and, and_true, neg1_nI, neg1_lt, neg1_neg, lt_neg1, eqN_F, eq_self,  hb, hb2, oI_s, nn_nI, hzb, a31, e1])
  simp (disch := first | omega | assumption | exact gt_50 H | (simp only [gT_pA, gT_pI, gT_pR]; first | assumption | exact gt_50 H) | fail) only [s9_0, s9_1, s9_2, s9_3, s9_5, s9_7, s9_10, s9_11, s9_14, s9_15, s9_16, s9_19, s9_20, s9_21, s9_24, s9_25, s9_26, s9_27, s9_28, s9_29, s9_30, s9_33, s9_34, s9_37, s9_40, s9_41, ai_31 H, ai_51 H, gr_50_3 H, gt_50 H, am9, isRf_ref, true_and, and_true, aPs_s, aPs_n, b01_0, b01_1, nI_clamp, ix_nI, inb_nI, lt_nI, eq_nI, nn_nI, eq0_nI, pk_mul, nI_add, lt_T, lt_F, if_true, if_false, true_and, and_true, neg1_nI, neg1_lt, neg1_neg, lt_neg1, eqN_F, eq_self, ]
  exact loop
set_option maxHeartbeats 4000000 in
theorem c8 (H : KC h) {P : Nat → Nat → Int32} (V : okP P) (hz : ∀ b, b < 12 → gI h 31 b = nI (zS P b)) {L : Nat → Option Nat} {B x : Nat} (hL : ∀ b, b < 12 → gI h 51 b = oI (L b)) (hB : LB P L B) (hB2 : B < 2 ^ 30) (hx : x < 2 ^ 30) : aM d 8 [.ref 50, .int (nI x), .ref 31] h Q = Q (some (.int (oI (loF P L x 12)))) h := by
  have loop := for_0 (F := fun b => aW d 8 5 [.ref 50, .int (nI x), .ref 31, .int (oI (loF P L x b)), .int (nI b)] [] h Q) (R := Q (some (.int (oI (loF P L x 12)))) h) 12 (by
    rw [s8_5]
    simp (disch := first | omega | assumption | exact gt_50 H | (simp only [gT_pA, gT_pI, gT_pR]; first | assumption | exact gt_50 H) | fail) only [s8_0, s8_1, s8_2, s8_3, s8_7, s8_9, s8_12, s8_13, s8_16, s8_18, s8_19, s8_20, s8_23, s8_24, s8_26, s8_27, s8_30, s8_31, s8_34, s8_35, s8_38, s8_40, s8_41, s8_42, s8_45, s8_46, s8_47, s8_50, s8_52, s8_53, s8_56, s8_59, s8_60, ai_31 H, ai_51 H, gr_50_3 H, gt_50 H, am8, isRf_ref, true_and, and_true, aPs_s, aPs_n, b01_0, b01_1, nI_clamp, ix_nI, inb_nI, lt_nI, eq_nI, nn_nI, eq0_nI, pk_mul, nI_add, lt_T, lt_F, if_true, if_false, true_and, and_true, neg1_nI, neg1_lt, neg1_neg, lt_neg1, eqN_F, eq_self,  Nat.lt_irrefl]) (fun b hb => by
    have hb2 := hL b hb
    have hzb := hz b hb
    have zb := (zS_ok V hb).2
    rw [s8_5, loF]
    cases hy : L b with
    | none =>
      rw [hy] at hb2
      simp (disch := first | omega | assumption | exact gt_50 H | (simp only [gT_pA, gT_pI, gT_pR]; first | assumption | exact gt_50 H) | fail) only [s8_0, s8_1, s8_2, s8_3, s8_7, s8_9, s8_12, s8_13, s8_16, s8_18, s8_19, s8_20, s8_23, s8_24, s8_26, s8_27, s8_30, s8_31, s8_34, s8_35, s8_38, s8_40, s8_41, s8_42, s8_45, s8_46, s8_47, s8_50, s8_52, s8_53, s8_56, s8_59, s8_60, ai_31 H, ai_51 H, gr_50_3 H, gt_50 H, am8, isRf_ref, true_and, and_true, aPs_s, aPs_n, b01_0, b01_1, nI_clamp, ix_nI, inb_nI, lt_nI, eq_nI, nn_nI, eq0_nI, pk_mul, nI_add, lt_T, lt_F, if_true, if_false, true_and, and_true, neg1_nI, neg1_lt, neg1_neg, lt_neg1, eqN_F, eq_self,  hb, hb2, oI_n]
    | some y =>
      rw [hy] at hb2
      have h1 := hB b hb y hy
      unfold loC
      by_cases h2 : y < x
      · simp (disch := first | omega | assumption | exact gt_50 H | (simp only [gT_pA, gT_pI, gT_pR]; first | assumption | exact gt_50 H) | fail) only [s8_0, s8_1, s8_2, s8_3, s8_7, s8_9, s8_12, s8_13, s8_16, s8_18, s8_19, s8_20, s8_23, s8_24, s8_26, s8_27, s8_30, s8_31, s8_34, s8_35, s8_38, s8_40, s8_41, s8_42, s8_45, s8_46, s8_47, s8_50, s8_52, s8_53, s8_56, s8_59, s8_60, ai_31 H, ai_51 H, gr_50_3 H, gt_50 H, am8, isRf_ref, true_and, and_true, aPs_s, aPs_n, b01_0, b01_1, nI_clamp, ix_nI, inb_nI, lt_nI, eq_nI, nn_nI, eq0_nI, pk_mul, nI_add, lt_T, lt_F, if_true, if_false, true_and, and_true, neg1_nI, neg1_lt, neg1_neg, lt_neg1, eqN_F, eq_self,  hb, hb2, oI_s, h2, decide_eq_false (show ¬ x ≤ y by omega), Bool.not_false, Bool.not_true, Bool.true_and, Bool.false_and, Bool.and_true, Bool.and_false, Bool.or_true, Bool.or_false, Bool.true_or, Bool.false_or, Bool.true_eq_false, Bool.false_eq_true, if_true, if_false, Option.isSome_some, Option.isSome_none, Option.isNone_some, Option.isNone_none, zB_t, zB_f, nI1_0, nI0_0]
      · by_cases h3 : 0 < zS P b
        · cases hq : loF P L x b with
          | none => simp (disch := first | omega | assumption | exact gt_50 H | (simp only [gT_pA, gT_pI, gT_pR]; first | assumption | exact gt_50 H) | fail) only [s8_0, s8_1, s8_2, s8_3, s8_7, s8_9, s8_12, s8_13, s8_16, s8_18, s8_19, s8_20, s8_23, s8_24, s8_26, s8_27, s8_30, s8_31, s8_34, s8_35, s8_38, s8_40, s8_41, s8_42, s8_45, s8_46, s8_47, s8_50, s8_52, s8_53, s8_56, s8_59, s8_60, ai_31 H, ai_51 H, gr_50_3 H, gt_50 H, am8, isRf_ref, true_and, and_true, aPs_s, aPs_n, b01_0, b01_1, nI_clamp, ix_nI, inb_nI, lt_nI, eq_nI, nn_nI, eq0_nI, pk_mul, nI_add, lt_T, lt_F, if_true, if_false, true_and, and_true, neg1_nI, neg1_lt, neg1_neg, lt_neg1, eqN_F, eq_self,  hb, hb2, oI_s, oI_n, h2, hzb, p0_nI, h3, iflt_m1, decide_eq_true (show x ≤ y by omega), decide_true, Bool.not_false, Bool.not_true, Bool.true_and, Bool.false_and, Bool.and_true, Bool.and_false, Bool.or_true, Bool.or_false, Bool.true_or, Bool.false_or, Bool.true_eq_false, Bool.false_eq_true, if_true, if_false, Option.isSome_some, Option.isSome_none, Option.isNone_some, Option.isNone_none, zB_t, zB_f, nI1_0, nI0_0]
          | some a =>
            obtain ⟨q1, _, z, q2, _⟩ := loF_ok hq
            have ha := hL a (by omega)
            rw [q2] at ha
            have := hB a (by omega) z q2
            have a12 : a < 12 := by omega
            by_cases h4 : y < z
            · simp (disch := first | omega | assumption | exact gt_50 H | (simp only [gT_pA, gT_pI, gT_pR]; first | assumption | exact gt_50 H) | fail) only [s8_0, s8_1, s8_2, s8_3, s8_7, s8_9, s8_12, s8_13, s8_16, s8_18, s8_19, s8_20, s8_23, s8_24, s8_26, s8_27, s8_30, s8_31, s8_34, s8_35, s8_38, s8_40, s8_41, s8_42, s8_45, s8_46, s8_47, s8_50, s8_52, s8_53, s8_56, s8_59, s8_60, ai_31 H, ai_51 H, gr_50_3 H, gt_50 H, am8, isRf_ref, true_and, and_true, aPs_s, aPs_n, b01_0, b01_1, nI_clamp, ix_nI, inb_nI, lt_nI, eq_nI, nn_nI, eq0_nI, pk_mul, nI_add, lt_T, lt_F, if_true, if_false, true_and, and_true, neg1_nI, neg1_lt, neg1_neg, lt_neg1, eqN_F, eq_self,  hb, hb2, oI_s, oI_n, h2, hzb, p0_nI, h3, nn_nI, a12, ha, q2, Option.getD_some, h4, decide_eq_true (show x ≤ y by omega), decide_true, Bool.not_false, Bool.not_true, Bool.true_and, Bool.false_and, Bool.and_true, Bool.and_false, Bool.or_true, Bool.or_false, Bool.true_or, Bool.false_or, Bool.true_eq_false, Bool.false_eq_true, if_true, if_false, Option.isSome_some, Option.isSome_none, Option.isNone_some, Option.isNone_none, zB_t, zB_f, nI1_0, nI0_0]
            · simp (disch := first | omega | assumption | exact gt_50 H | (simp only [gT_pA, gT_pI, gT_pR]; first | assumption | exact gt_50 H) | fail) only [s8_0, s8_1, s8_2, s8_3, s8_7, s8_9, s8_12, s8_13, s8_16, s8_18, s8_19, s8_20, s8_23, s8_24, s8_26, s8_27, s8_30, s8_31, s8_34, s8_35, s8_38, s8_40, s8_41, s8_42, s8_45, s8_46, s8_47, s8_50, s8_52, s8_53, s8_56, s8_59, s8_60, ai_31 H, ai_51 H, gr_50_3 H, gt_50 H, am8, isRf_ref, true_and, and_true, aPs_s, aPs_n, b01_0, b01_1, nI_clamp, ix_nI, inb_nI, lt_nI, eq_nI, nn_nI, eq0_nI, pk_mul, nI_add, lt_T, lt_F, if_true, if_false, true_and, and_true, neg1_nI, neg1_lt, neg1_neg, lt_neg1, eqN_F, eq_self,  hb, hb2, oI_s, oI_n, h2, hzb, p0_nI, h3, nn_nI, a12, ha, q2, Option.getD_some, h4, decide_eq_true (show x ≤ y by omega), decide_true, decide_false, Bool.not_false, Bool.not_true, Bool.true_and, Bool.false_and, Bool.and_true, Bool.and_false, Bool.or_true, Bool.or_false, Bool.true_or, Bool.false_or, Bool.true_eq_false, Bool.false_eq_true, if_true, if_false, Option.isSome_some, Option.isSome_none, Option.isNone_some, Option.isNone_none, zB_t, zB_f, nI1_0, nI0_0]
        · simp (disch := first | omega | assumption | exact gt_50 H | (simp only [gT_pA, gT_pI, gT_pR]; first | assumption | exact gt_50 H) | fail) only [s8_0, s8_1, s8_2, s8_3, s8_7, s8_9, s8_12, s8_13, s8_16, s8_18, s8_19, s8_20, s8_23, s8_24, s8_26, s8_27, s8_30, s8_31, s8_34, s8_35, s8_38, s8_40, s8_41, s8_42, s8_45, s8_46, s8_47, s8_50, s8_52, s8_53, s8_56, s8_59, s8_60, ai_31 H, ai_51 H, gr_50_3 H, gt_50 H, am8, isRf_ref, true_and, and_true, aPs_s, aPs_n, b01_0, b01_1, nI_clamp, ix_nI, inb_nI, lt_nI, eq_nI, nn_nI, eq0_nI, pk_mul, nI_add, lt_T, lt_F, if_true, if_false, true_and, and_true, neg1_nI, neg1_lt, neg1_neg, lt_neg1, eqN_F, eq_self,  hb, hb2, oI_s, oI_n, h2, hzb, p0_nI, h3, decide_false, Bool.not_false, Bool.not_true, Bool.true_and, Bool.false_and, Bool.and_true, Bool.and_false, Bool.or_true, Bool.or_false, Bool.true_or, Bool.false_or, Bool.true_eq_false, Bool.false_eq_true, if_true, if_false, Option.isSome_some, Option.isSome_none, Option.isNone_some, Option.isNone_none, zB_t, zB_f, nI1_0, nI0_0])
  simp (disch := first | omega | assumption | exact gt_50 H | (simp only [gT_pA, gT_pI, gT_pR]; first | assumption | exact gt_50 H) | fail) only [s8_0, s8_1, s8_2, s8_3, s8_7, s8_9, s8_12, s8_13, s8_16, s8_18, s8_19, s8_20, s8_23, s8_24, s8_26, s8_27, s8_30, s8_31, s8_34, s8_35, s8_38, s8_40, s8_41, s8_42, s8_45, s8_46, s8_47, s8_50, s8_52, s8_53, s8_56, s8_59, s8_60, ai_31 H, ai_51 H, gr_50_3 H, gt_50 H, am8, isRf_ref, true_and, and_true, aPs_s, aPs_n, b01_0, b01_1, nI_clamp, ix_nI, inb_nI, lt_nI, eq_nI, nn_nI, eq0_nI, pk_mul, nI_add, lt_T, lt_F, if_true, if_false, true_and, and_true, neg1_nI, neg1_lt, neg1_neg, lt_neg1, eqN_F, eq_self, ]
  exact loop
theorem c7 (H : KC h) {rl n m : Nat} (hr : gI h 50 2 = nI rl) (hrl : rl < 3) (hn : n < 2 ^ 31) (hm : m < 2 ^ 31) {e : Nat} : aM d 7 [.ref 50, .int (nI n), .int (nI m)] h Q = Q (some (.int (zB (hlB rl (some (e, m)) n)))) h := by
  unfold hlB
  rcases (show rl = 0 ∨ rl = 1 ∨ rl = 2 by omega) with rfl | rfl | rfl
  · simp (disch := first | omega | assumption | exact gt_50 H | (simp only [gT_pA, gT_pI, gT_pR]; first | assumption | exact gt_50 H) | fail) only [s7_0, s7_1, s7_4, s7_32, s7_33, s7_34, s7_37, s7_38, s7_41, s7_42, s7_43, s7_44, s7_45, s7_48, s7_49, s7_52, s7_53, s7_54, s7_55, gt_50 H, am7, isRf_ref, true_and, and_true, aPs_s, aPs_n, b01_0, b01_1, nI_clamp, ix_nI, inb_nI, lt_nI, eq_nI, nn_nI, eq0_nI, pk_mul, nI_add, lt_T, lt_F, if_true, if_false, true_and, and_true, neg1_nI, neg1_lt, neg1_neg, lt_neg1, eqN_F, eq_self,  hr, show ((0 : Nat) == 1) = false from rfl, show ((0 : Nat) == 2) = false from rfl, Bool.not_false, Bool.not_true, Bool.true_and, Bool.false_and, Bool.and_true, Bool.and_false, Bool.or_true, Bool.or_false, Bool.true_or, Bool.false_or, Bool.true_eq_false, Bool.false_eq_true, if_true, if_false, Option.isSome_some, Option.isSome_none, Option.isNone_some, Option.isNone_none, zB_t, zB_f, nI1_0, nI0_0]
  · by_cases h1 : n < m
    · simp (disch := first | omega | assumption | exact gt_50 H | (simp only [gT_pA, gT_pI, gT_pR]; first | assumption | exact gt_50 H) | fail) only [s7_0, s7_1, s7_4, s7_32, s7_33, s7_34, s7_37, s7_38, s7_41, s7_42, s7_43, s7_44, s7_45, s7_48, s7_49, s7_52, s7_53, s7_54, s7_55, gt_50 H, am7, isRf_ref, true_and, and_true, aPs_s, aPs_n, b01_0, b01_1, nI_clamp, ix_nI, inb_nI, lt_nI, eq_nI, nn_nI, eq0_nI, pk_mul, nI_add, lt_T, lt_F, if_true, if_false, true_and, and_true, neg1_nI, neg1_lt, neg1_neg, lt_neg1, eqN_F, eq_self,  hr, h1, decide_true, show ((1 : Nat) == 1) = true from rfl, show ((1 : Nat) == 2) = false from rfl, Bool.not_false, Bool.not_true, Bool.true_and, Bool.false_and, Bool.and_true, Bool.and_false, Bool.or_true, Bool.or_false, Bool.true_or, Bool.false_or, Bool.true_eq_false, Bool.false_eq_true, if_true, if_false, Option.isSome_some, Option.isSome_none, Option.isNone_some, Option.isNone_none, zB_t, zB_f, nI1_0, nI0_0]
    · simp (disch := first | omega | assumption | exact gt_50 H | (simp only [gT_pA, gT_pI, gT_pR]; first | assumption | exact gt_50 H) | fail) only [s7_0, s7_1, s7_4, s7_32, s7_33, s7_34, s7_37, s7_38, s7_41, s7_42, s7_43, s7_44, s7_45, s7_48, s7_49, s7_52, s7_53, s7_54, s7_55, gt_50 H, am7, isRf_ref, true_and, and_true, aPs_s, aPs_n, b01_0, b01_1, nI_clamp, ix_nI, inb_nI, lt_nI, eq_nI, nn_nI, eq0_nI, pk_mul, nI_add, lt_T, lt_F, if_true, if_false, true_and, and_true, neg1_nI, neg1_lt, neg1_neg, lt_neg1, eqN_F, eq_self,  hr, h1, decide_false, show ((1 : Nat) == 1) = true from rfl, show ((1 : Nat) == 2) = false from rfl, Bool.not_false, Bool.not_true, Bool.true_and, Bool.false_and, Bool.and_true, Bool.and_false, Bool.or_true, Bool.or_false, Bool.true_or, Bool.false_or, Bool.true_eq_false, Bool.false_eq_true, if_true, if_false, Option.isSome_some, Option.isSome_none, Option.isNone_some, Option.isNone_none, zB_t, zB_f, nI1_0, nI0_0]
  · by_cases h1 : m < n
    · simp (disch := first | omega | assumption | exact gt_50 H | (simp only [gT_pA, gT_pI, gT_pR]; first | assumption | exact gt_50 H) | fail) only [s7_0, s7_1, s7_4, s7_32, s7_33, s7_34, s7_37, s7_38, s7_41, s7_42, s7_43, s7_44, s7_45, s7_48, s7_49, s7_52, s7_53, s7_54, s7_55, gt_50 H, am7, isRf_ref, true_and, and_true, aPs_s, aPs_n, b01_0, b01_1, nI_clamp, ix_nI, inb_nI, lt_nI, eq_nI, nn_nI, eq0_nI, pk_mul, nI_add, lt_T, lt_F, if_true, if_false, true_and, and_true, neg1_nI, neg1_lt, neg1_neg, lt_neg1, eqN_F, eq_self,  hr, h1, decide_true, show ((2 : Nat) == 1) = false from rfl, show ((2 : Nat) == 2) = true from rfl, Bool.not_false, Bool.not_true, Bool.true_and, Bool.false_and, Bool.and_true, Bool.and_false, Bool.or_true, Bool.or_false, Bool.true_or, Bool.false_or, Bool.true_eq_false, Bool.false_eq_true, if_true, if_false, Option.isSome_some, Option.isSome_none, Option.isNone_some, Option.isNone_none, zB_t, zB_f, nI1_0, nI0_0]
    · simp (disch := first | omega | assumption | exact gt_50 H | (simp only [gT_pA, gT_pI, gT_pR]; first | assumption | exact gt_50 H) | fail) only [s7_0, s7_1, s7_4, s7_32, s7_33, s7_34, s7_37, s7_38, s7_41, s7_42, s7_43, s7_44, s7_45, s7_48, s7_49, s7_52, s7_53, s7_54, s7_55, gt_50 H, am7, isRf_ref, true_and, and_true, aPs_s, aPs_n, b01_0, b01_1, nI_clamp, ix_nI, inb_nI, lt_nI, eq_nI, nn_nI, eq0_nI, pk_mul, nI_add, lt_T, lt_F, if_true, if_false, true_and, and_true, neg1_nI, neg1_lt, neg1_neg, lt_neg1, eqN_F, eq_self,  hr, h1, decide_false, show ((2 : Nat) == 1) = false from rfl, show ((2 : Nat) == 2) = true from rfl, Bool.not_false, Bool.not_true, Bool.true_and, Bool.false_and, Bool.and_true, Bool.and_false, Bool.or_true, Bool.or_false, Bool.true_or, Bool.false_or, Bool.true_eq_false, Bool.false_eq_true, if_true, if_false, Option.isSome_some, Option.isSome_none, Option.isNone_some, Option.isNone_none, zB_t, zB_f, nI1_0, nI0_0]
set_option maxHeartbeats 8000000 in
theorem c6_11 (H : KC h) {P : Nat → Nat → Int32} (V : okP P) (hz : ∀ b, b < 12 → gI h 31 b = nI (zS P b)) {L : Nat → Option Nat} {B rl b : Nat} (hL : ∀ b, b < 12 → gI h 51 b = oI (L b)) (hB : LB P L B) (hB2 : B < 2 ^ 30) (J : dj P L) (hb : b < 12) (hr : gI h 50 2 = nI rl) (hrl : rl < 3) : ∀ {f t x : Nat} {acc : Option (Nat × Nat)} {l7 l8 : Value}, t + f = 12 → acB acc B → x ≤ B → aW (d + 1) 6 11 [.ref 50, .int (nI b), .ref 31, .int (nI x), .int (acI acc), .int (acR acc), .int (nI t), l7, l8] [] h Q = Q (some (.int (nI (puF P L (zS P b) rl f acc x)))) h := by
  have zb := (zS_ok V hb).2
  have hzb := hz b hb
  have fin : ∀ {x t : Nat} {acc : Option (Nat × Nat)} {l7 l8 : Value}, acB acc B → x ≤ B → aW (d + 1) 6 100 [.ref 50, .int (nI b), .ref 31, .int (nI x), .int (acI acc), .int (acR acc), .int (nI t), l7, l8] [] h Q = Q (some (.int (nI (puE acc x)))) h := by
    intro x t acc l7 l8 ha hx
    rw [s6_100]
    cases acc with
    | none => simp (disch := first | omega | assumption | exact gt_50 H | (simp only [gT_pA, gT_pI, gT_pR]; first | assumption | exact gt_50 H) | fail) only [s6_0, s6_1, s6_2, s6_3, s6_5, s6_6, s6_8, s6_9, s6_13, s6_15, s6_18, s6_19, s6_20, s6_21, s6_24, s6_26, s6_28, s6_31, s6_34, s6_35, s6_38, s6_40, s6_41, s6_42, s6_43, s6_45, s6_47, s6_50, s6_52, s6_53, s6_54, s6_55, s6_58, s6_60, s6_63, s6_64, s6_66, s6_68, s6_71, s6_74, s6_75, s6_77, s6_79, s6_81, s6_82, s6_85, s6_87, s6_88, s6_89, s6_91, s6_92, s6_93, s6_94, s6_97, s6_102, s6_105, s6_106, s6_109, s6_111, ai_31 H, ai_51 H, gr_50_3 H, gt_50 H, am6, isRf_ref, true_and, and_true, aPs_s, aPs_n, b01_0, b01_1, nI_clamp, ix_nI, inb_nI, lt_nI, eq_nI, nn_nI, eq0_nI, pk_mul, nI_add, lt_T, lt_F, if_true, if_false, true_and, and_true, neg1_nI, neg1_lt, neg1_neg, lt_neg1, eqN_F, eq_self,  acI_n, iflt_m1, puE]
    | some a =>
      have := ha a rfl
      simp (disch := first | omega | assumption | exact gt_50 H | (simp only [gT_pA, gT_pI, gT_pR]; first | assumption | exact gt_50 H) | fail) only [s6_0, s6_1, s6_2, s6_3, s6_5, s6_6, s6_8, s6_9, s6_13, s6_15, s6_18, s6_19, s6_20, s6_21, s6_24, s6_26, s6_28, s6_31, s6_34, s6_35, s6_38, s6_40, s6_41, s6_42, s6_43, s6_45, s6_47, s6_50, s6_52, s6_53, s6_54, s6_55, s6_58, s6_60, s6_63, s6_64, s6_66, s6_68, s6_71, s6_74, s6_75, s6_77, s6_79, s6_81, s6_82, s6_85, s6_87, s6_88, s6_89, s6_91, s6_92, s6_93, s6_94, s6_97, s6_102, s6_105, s6_106, s6_109, s6_111, ai_31 H, ai_51 H, gr_50_3 H, gt_50 H, am6, isRf_ref, true_and, and_true, aPs_s, aPs_n, b01_0, b01_1, nI_clamp, ix_nI, inb_nI, lt_nI, eq_nI, nn_nI, eq0_nI, pk_mul, nI_add, lt_T, lt_F, if_true, if_false, true_and, and_true, neg1_nI, neg1_lt, neg1_neg, lt_neg1, eqN_F, eq_self,  acI_s, nn_nI, puE]
  intro f
  induction f with
  | zero =>
    intro t x acc l7 l8 ht ha hx
    have ht : t = 12 := by omega
    subst ht
    rw [s6_11, puF]
    simp (disch := first | omega | assumption | exact gt_50 H | (simp only [gT_pA, gT_pI, gT_pR]; first | assumption | exact gt_50 H) | fail) only [s6_0, s6_1, s6_2, s6_3, s6_5, s6_6, s6_8, s6_9, s6_13, s6_15, s6_18, s6_19, s6_20, s6_21, s6_24, s6_26, s6_28, s6_31, s6_34, s6_35, s6_38, s6_40, s6_41, s6_42, s6_43, s6_45, s6_47, s6_50, s6_52, s6_53, s6_54, s6_55, s6_58, s6_60, s6_63, s6_64, s6_66, s6_68, s6_71, s6_74, s6_75, s6_77, s6_79, s6_81, s6_82, s6_85, s6_87, s6_88, s6_89, s6_91, s6_92, s6_93, s6_94, s6_97, s6_102, s6_105, s6_106, s6_109, s6_111, ai_31 H, ai_51 H, gr_50_3 H, gt_50 H, am6, isRf_ref, true_and, and_true, aPs_s, aPs_n, b01_0, b01_1, nI_clamp, ix_nI, inb_nI, lt_nI, eq_nI, nn_nI, eq0_nI, pk_mul, nI_add, lt_T, lt_F, if_true, if_false, true_and, and_true, neg1_nI, neg1_lt, neg1_neg, lt_neg1, eqN_F, eq_self,  Nat.lt_irrefl]
    exact fin ha hx
  | succ f ih =>
    intro t x acc l7 l8 ht ha hx
    have t12 : t < 12 := by omega
    have c8' : ∀ Q', aM d 8 [.ref 50, .int (nI x), .ref 31] h Q' = Q' (some (.int (oI (loF P L x 12)))) h := fun Q' => c8 H V hz hL hB hB2 (by omega)
    rw [s6_11, puF]
    cases hq : loF P L x 12 with
    | none =>
      rw [hq] at c8'
      rw [loF_none hq]
      simp (disch := first | omega | assumption | exact gt_50 H | (simp only [gT_pA, gT_pI, gT_pR]; first | assumption | exact gt_50 H) | fail) only [s6_0, s6_1, s6_2, s6_3, s6_5, s6_6, s6_8, s6_9, s6_13, s6_15, s6_18, s6_19, s6_20, s6_21, s6_24, s6_26, s6_28, s6_31, s6_34, s6_35, s6_38, s6_40, s6_41, s6_42, s6_43, s6_45, s6_47, s6_50, s6_52, s6_53, s6_54, s6_55, s6_58, s6_60, s6_63, s6_64, s6_66, s6_68, s6_71, s6_74, s6_75, s6_77, s6_79, s6_81, s6_82, s6_85, s6_87, s6_88, s6_89, s6_91, s6_92, s6_93, s6_94, s6_97, s6_102, s6_105, s6_106, s6_109, s6_111, ai_31 H, ai_51 H, gr_50_3 H, gt_50 H, am6, isRf_ref, true_and, and_true, aPs_s, aPs_n, b01_0, b01_1, nI_clamp, ix_nI, inb_nI, lt_nI, eq_nI, nn_nI, eq0_nI, pk_mul, nI_add, lt_T, lt_F, if_true, if_false, true_and, and_true, neg1_nI, neg1_lt, neg1_neg, lt_neg1, eqN_F, eq_self,  t12, c8', oI_n, iflt_m1]
      exact fin ha hx
    | some a =>
      rw [hq] at c8'
      obtain ⟨q1, q2, y, q3, q4⟩ := loF_ok hq
      have qy := (nxF_ok q4).1
      have ey := hL a q1
      rw [q3] at ey
      have za := hz a q1
      have hy := hB a q1 y q3
      have he := enF_dj J q1 q3 q2
      have e5 : nI y - nI x = nI (y - x) := pk_sub qy
      have ih2 := fun acc2 (ha2 : acB acc2 B) l7 l8 => ih (t := t + 1) (x := enF P L y 12) (acc := acc2) (l7 := l7) (l8 := l8) (by omega) ha2 (by omega)
      rw [he] at ih2
      have ihn := ih2 acc ha
      have ihs := ih2 (some (x, y - x)) (fun a e => by cases e; exact ⟨hx, by omega⟩)
      rw [q4]
      simp only [he]
      unfold hlS
      by_cases g1 : 0 < y - x
      · by_cases g2 : y - x < zS P b
        · simp only [decide_eq_true g1, decide_eq_false (show ¬ zS P b ≤ y - x by omega), Bool.not_false, Bool.not_true, Bool.true_and, Bool.false_and, Bool.and_true, Bool.and_false, Bool.or_true, Bool.or_false, Bool.true_or, Bool.false_or, Bool.true_eq_false, Bool.false_eq_true, if_true, if_false, Option.isSome_some, Option.isSome_none, Option.isNone_some, Option.isNone_none, zB_t, zB_f, nI1_0, nI0_0]
          simp (disch := first | omega | assumption | exact gt_50 H | (simp only [gT_pA, gT_pI, gT_pR]; first | assumption | exact gt_50 H) | fail) only [s6_0, s6_1, s6_2, s6_3, s6_5, s6_6, s6_8, s6_9, s6_13, s6_15, s6_18, s6_19, s6_20, s6_21, s6_24, s6_26, s6_28, s6_31, s6_34, s6_35, s6_38, s6_40, s6_41, s6_42, s6_43, s6_45, s6_47, s6_50, s6_52, s6_53, s6_54, s6_55, s6_58, s6_60, s6_63, s6_64, s6_66, s6_68, s6_71, s6_74, s6_75, s6_77, s6_79, s6_81, s6_82, s6_85, s6_87, s6_88, s6_89, s6_91, s6_92, s6_93, s6_94, s6_97, s6_102, s6_105, s6_106, s6_109, s6_111, ai_31 H, ai_51 H, gr_50_3 H, gt_50 H, am6, isRf_ref, true_and, and_true, aPs_s, aPs_n, b01_0, b01_1, nI_clamp, ix_nI, inb_nI, lt_nI, eq_nI, nn_nI, eq0_nI, pk_mul, nI_add, lt_T, lt_F, if_true, if_false, true_and, and_true, neg1_nI, neg1_lt, neg1_neg, lt_neg1, eqN_F, eq_self,  t12, c8', oI_s, nn_nI, q1, ey, e5, p0_nI, g1, hb, hzb, g2, za, ihn]
        · simp only [decide_eq_true g1, decide_eq_true (show zS P b ≤ y - x by omega), Bool.not_false, Bool.not_true, Bool.true_and, Bool.false_and, Bool.and_true, Bool.and_false, Bool.or_true, Bool.or_false, Bool.true_or, Bool.false_or, Bool.true_eq_false, Bool.false_eq_true, if_true, if_false, Option.isSome_some, Option.isSome_none, Option.isNone_some, Option.isNone_none, zB_t, zB_f, nI1_0, nI0_0]
          cases acc with
          | none =>
            simp only [hlB, if_true]
            simp only [acI_s, acR_s] at ihs
            simp (disch := first | omega | assumption | exact gt_50 H | (simp only [gT_pA, gT_pI, gT_pR]; first | assumption | exact gt_50 H) | fail) only [s6_0, s6_1, s6_2, s6_3, s6_5, s6_6, s6_8, s6_9, s6_13, s6_15, s6_18, s6_19, s6_20, s6_21, s6_24, s6_26, s6_28, s6_31, s6_34, s6_35, s6_38, s6_40, s6_41, s6_42, s6_43, s6_45, s6_47, s6_50, s6_52, s6_53, s6_54, s6_55, s6_58, s6_60, s6_63, s6_64, s6_66, s6_68, s6_71, s6_74, s6_75, s6_77, s6_79, s6_81, s6_82, s6_85, s6_87, s6_88, s6_89, s6_91, s6_92, s6_93, s6_94, s6_97, s6_102, s6_105, s6_106, s6_109, s6_111, ai_31 H, ai_51 H, gr_50_3 H, gt_50 H, am6, isRf_ref, true_and, and_true, aPs_s, aPs_n, b01_0, b01_1, nI_clamp, ix_nI, inb_nI, lt_nI, eq_nI, nn_nI, eq0_nI, pk_mul, nI_add, lt_T, lt_F, if_true, if_false, true_and, and_true, neg1_nI, neg1_lt, neg1_neg, lt_neg1, eqN_F, eq_self,  t12, c8', oI_s, nn_nI, q1, ey, e5, p0_nI, g1, hb, hzb, g2, za, acI_n, iflt_m1, ihs]
          | some c =>
            have hc := ha c rfl
            have c7' : ∀ Q', aM d 7 [.ref 50, .int (nI (y - x)), .int (nI c.2)] h Q' = Q' (some (.int (zB (hlB rl (some c) (y - x))))) h := fun Q' => c7 H hr hrl (by omega) (by omega) (e := c.1)
            simp only [acI_s, acR_s] at ihs ihn ⊢
            rcases Bool.eq_false_or_eq_true (hlB rl (some c) (y - x)) with g3 | g3
            · simp only [g3, if_true]
              simp (disch := first | omega | assumption | exact gt_50 H | (simp only [gT_pA, gT_pI, gT_pR]; first | assumption | exact gt_50 H) | fail) only [s6_0, s6_1, s6_2, s6_3, s6_5, s6_6, s6_8, s6_9, s6_13, s6_15, s6_18, s6_19, s6_20, s6_21, s6_24, s6_26, s6_28, s6_31, s6_34, s6_35, s6_38, s6_40, s6_41, s6_42, s6_43, s6_45, s6_47, s6_50, s6_52, s6_53, s6_54, s6_55, s6_58, s6_60, s6_63, s6_64, s6_66, s6_68, s6_71, s6_74, s6_75, s6_77, s6_79, s6_81, s6_82, s6_85, s6_87, s6_88, s6_89, s6_91, s6_92, s6_93, s6_94, s6_97, s6_102, s6_105, s6_106, s6_109, s6_111, ai_31 H, ai_51 H, gr_50_3 H, gt_50 H, am6, isRf_ref, true_and, and_true, aPs_s, aPs_n, b01_0, b01_1, nI_clamp, ix_nI, inb_nI, lt_nI, eq_nI, nn_nI, eq0_nI, pk_mul, nI_add, lt_T, lt_F, if_true, if_false, true_and, and_true, neg1_nI, neg1_lt, neg1_neg, lt_neg1, eqN_F, eq_self,  t12, c8', oI_s, nn_nI, q1, ey, e5, p0_nI, g1, hb, hzb, g2, za, c7', g3, Bool.not_false, Bool.not_true, Bool.true_and, Bool.false_and, Bool.and_true, Bool.and_false, Bool.or_true, Bool.or_false, Bool.true_or, Bool.false_or, Bool.true_eq_false, Bool.false_eq_true, if_true, if_false, Option.isSome_some, Option.isSome_none, Option.isNone_some, Option.isNone_none, zB_t, zB_f, nI1_0, nI0_0, ihs]
            · simp only [g3, if_false, Bool.false_eq_true]
              simp (disch := first | omega | assumption | exact gt_50 H | (simp only [gT_pA, gT_pI, gT_pR]; first | assumption | exact gt_50 H) | fail) only [s6_0, s6_1, s6_2, s6_3, s6_5, s6_6, s6_8, s6_9, s6_13, s6_15, s6_18, s6_19, s6_20, s6_21, s6_24, s6_26, s6_28, s6_31, s6_34, s6_35, s6_38, s6_40, s6_41, s6_42, s6_43, s6_45, s6_47, s6_50, s6_52, s6_53, s6_54, s6_55, s6_58, s6_60, s6_63, s6_64, s6_66, s6_68, s6_71, s6_74, s6_75, s6_77, s6_79, s6_81, s6_82, s6_85, s6_87, s6_88, s6_89, s6_91, s6_92, s6_93, s6_94, s6_97, s6_102, s6_105, s6_106, s6_109, s6_111, ai_31 H, ai_51 H, gr_50_3 H, gt_50 H, am6, isRf_ref, true_and, and_true, aPs_s, aPs_n, b01_0, b01_1, nI_clamp, ix_nI, inb_nI, lt_nI, eq_nI, nn_nI, eq0_nI, pk_mul, nI_add, lt_T, lt_F, if_true, if_false, true_and, and_true, neg1_nI, neg1_lt, neg1_neg, lt_neg1, eqN_F, eq_self,  t12, c8', oI_s, nn_nI, q1, ey, e5, p0_nI, g1, hb, hzb, g2, za, c7', g3, Bool.not_false, Bool.not_true, Bool.true_and, Bool.false_and, Bool.and_true, Bool.and_false, Bool.or_true, Bool.or_false, Bool.true_or, Bool.false_or, Bool.true_eq_false, Bool.false_eq_true, if_true, if_false, Option.isSome_some, Option.isSome_none, Option.isNone_some, Option.isNone_none, zB_t, zB_f, nI1_0, nI0_0, ihn]
      · simp only [decide_eq_false g1, Bool.not_false, Bool.not_true, Bool.true_and, Bool.false_and, Bool.and_true, Bool.and_false, Bool.or_true, Bool.or_false, Bool.true_or, Bool.false_or, Bool.true_eq_false, Bool.false_eq_true, if_true, if_false, Option.isSome_some, Option.isSome_none, Option.isNone_some, Option.isNone_none, zB_t, zB_f, nI1_0, nI0_0]
        simp (disch := first | omega | assumption | exact gt_50 H | (simp only [gT_pA, gT_pI, gT_pR]; first | assumption | exact gt_50 H) | fail) only [s6_0, s6_1, s6_2, s6_3, s6_5, s6_6, s6_8, s6_9, s6_13, s6_15, s6_18, s6_19, s6_20, s6_21, s6_24, s6_26, s6_28, s6_31, s6_34, s6_35, s6_38, s6_40, s6_41, s6_42, s6_43, s6_45, s6_47, s6_50, s6_52, s6_53, s6_54, s6_55, s6_58, s6_60, s6_63, s6_64, s6_66, s6_68, s6_71, s6_74, s6_75, s6_77, s6_79, s6_81, s6_82, s6_85, s6_87, s6_88, s6_89, s6_91, s6_92, s6_93, s6_94, s6_97, s6_102, s6_105, s6_106, s6_109, s6_111, ai_31 H, ai_51 H, gr_50_3 H, gt_50 H, am6, isRf_ref, true_and, and_true, aPs_s, aPs_n, b01_0, b01_1, nI_clamp, ix_nI, inb_nI, lt_nI, eq_nI, nn_nI, eq0_nI, pk_mul, nI_add, lt_T, lt_F, if_true, if_false, true_and, and_true, neg1_nI, neg1_lt, neg1_neg, lt_neg1, eqN_F, eq_self,  t12, c8', oI_s, nn_nI, q1, ey, e5, p0_nI, g1, za, ihn]
theorem c6 (H : KC h) {P : Nat → Nat → Int32} (V : okP P) (hz : ∀ b, b < 12 → gI h 31 b = nI (zS P b)) {L : Nat → Option Nat} {B rl b : Nat} (hL : ∀ b, b < 12 → gI h 51 b = oI (L b)) (hB : LB P L B) (hB2 : B < 2 ^ 30) (J : dj P L) (hb : b < 12) (hr : gI h 50 2 = nI rl) (hrl : rl < 3) : aM (d + 1) 6 [.ref 50, .int (nI b), .ref 31] h Q = Q (some (.int (nI (puR P L rl b)))) h := by
  have loop := c6_11 (d := d) (Q := Q) H V hz hL hB hB2 J hb hr hrl (f := 12) (t := 0) (x := 0) (acc := none) (l7 := .retAddr 0) (l8 := .retAddr 0) rfl (fun a e => by cases e) (Nat.zero_le _)
  simp (disch := first | omega | assumption | exact gt_50 H | (simp only [gT_pA, gT_pI, gT_pR]; first | assumption | exact gt_50 H) | fail) only [s6_0, s6_1, s6_2, s6_3, s6_5, s6_6, s6_8, s6_9, s6_13, s6_15, s6_18, s6_19, s6_20, s6_21, s6_24, s6_26, s6_28, s6_31, s6_34, s6_35, s6_38, s6_40, s6_41, s6_42, s6_43, s6_45, s6_47, s6_50, s6_52, s6_53, s6_54, s6_55, s6_58, s6_60, s6_63, s6_64, s6_66, s6_68, s6_71, s6_74, s6_75, s6_77, s6_79, s6_81, s6_82, s6_85, s6_87, s6_88, s6_89, s6_91, s6_92, s6_93, s6_94, s6_97, s6_102, s6_105, s6_106, s6_109, s6_111, ai_31 H, ai_51 H, gr_50_3 H, gt_50 H, am6, isRf_ref, true_and, and_true, aPs_s, aPs_n, b01_0, b01_1, nI_clamp, ix_nI, inb_nI, lt_nI, eq_nI, nn_nI, eq0_nI, pk_mul, nI_add, lt_T, lt_F, if_true, if_false, true_and, and_true, neg1_nI, neg1_lt, neg1_neg, lt_neg1, eqN_F, eq_self, ]
  exact loop
/-- the heap as the class goes: facts -/
theorem flC_hz {P : Nat → Nat → Int32} (hz : ∀ b, b < 12 → gI h 31 b = nI (zS P b)) {L : Nat → Option Nat} {hi q : Nat} : ∀ b, b < 12 → gI (flX 51 50 1 0 h L hi q) 31 b = nI (zS P b) := hz
set_option maxHeartbeats 8000000 in
theorem c4 (H : KC h) (hp : p = 5 ∨ p = 17) {P : Nat → Nat → Int32} (W : okW P) (T : TH h p P) (hz : ∀ b, b < 12 → gI h 31 b = nI (zS P b)) {o : Nat → Nat} (TLo : TL h P o) {L : Nat → Option Nat} {rl hi q : Nat} (hB : LB P L 0) (J : dj P L) (hr : gI h 50 2 = nI rl) (hrl : rl < 3) : aM (d + 2) 4 [.ref 50, .ref 29] (flX 51 50 1 0 h L hi q) Q = Q none (flX 51 50 1 0 h (gvF P o L rl 12) hi q) := by
  have V := W.1
  obtain ⟨C, r29⟩ := T
  have HMa : ∀ L hi q, KC (flX 51 50 1 0 h L hi q) := fun _ _ _ => H
  have loop := for_0 (F := fun b => aW (d + 2) 4 2 [.ref 50, .ref 29, .int (nI b)] [] (flX 51 50 1 0 h (gvF P o L rl b) hi q) Q) (R := Q none (flX 51 50 1 0 h (gvF P o L rl 12) hi q)) 12 (by
    rw [s4_2]
    simp (disch := first | omega | assumption | exact gtP (HMa _ _ _) hp | exact gt_29 (HMa _ _ _) | exact gt_30 (HMa _ _ _) | exact gt_50 (HMa _ _ _) | (simp only [gT_pA, gT_pI, gT_pR]; first | assumption | exact gtP (HMa _ _ _) hp | exact gt_29 (HMa _ _ _) | exact gt_30 (HMa _ _ _) | exact gt_50 (HMa _ _ _)) | fail) only [s4_0, s4_1, s4_3, s4_5, s4_8, s4_9, s4_12, s4_15, s4_16, s4_17, s4_20, s4_21, s4_22, s4_25, s4_28, s4_29, s4_32, s4_33, s4_34, s4_35, s4_36, s4_39, s4_42, s4_45, s4_46, s4_49, s4_52, aiP_5 (HMa _ _ _) hp, aj_51 (HMa _ _ _), grP_4 (HMa _ _ _) hp, gr_29_0 (HMa _ _ _), gr_30_1 (HMa _ _ _), gr_50_3 (HMa _ _ _), gtP (HMa _ _ _) hp, gt_29 (HMa _ _ _), gt_30 (HMa _ _ _), gt_50 (HMa _ _ _), am4, isRf_ref, true_and, and_true, aPs_s, aPs_n, b01_0, b01_1, nI_clamp, ix_nI, inb_nI, lt_nI, eq_nI, nn_nI, eq0_nI, pk_mul, nI_add, lt_T, lt_F, if_true, if_false, true_and, and_true, neg1_nI, neg1_lt, neg1_neg, lt_neg1, eqN_F, eq_self,  Nat.lt_irrefl]) (fun b hb => by
    have hb4 := gvF_le V (o := o) (rl := rl) hB (n := b) (by omega)
    have Jb := dj_gv (o := o) (rl := rl) J (n := b)
    have r3 : gR (flX 51 50 1 0 h (gvF P o L rl b) hi q) 29 1 = .ref p := r29
    have CX : CP (flX 51 50 1 0 h (gvF P o L rl b) hi q) p P := CPg_of (fun q j h1 h2 => by rw [flX_o (by omega) (by omega)]) C
    have ex := CX.x hb
    have e2 : gI (flX 51 50 1 0 h (gvF P o L rl b) hi q) 50 2 = nI rl := (flX_k (by decide) (by decide) (by decide)).trans hr
    have eL : ∀ c, c < 12 → gI (flX 51 50 1 0 h (gvF P o L rl b) hi q) 51 c = oI (gvF P o L rl b c) := fun c hc => flX_L (by decide) hc
    have hz2 : ∀ b', b' < 12 → gI (flX 51 50 1 0 h (gvF P o L rl b) hi q) 31 b' = nI (zS P b') := hz
    have TL2 : TL (flX 51 50 1 0 h (gvF P o L rl b) hi q) P o := TLo
    have c90' : ∀ Q', aM (d + 1) 90 [.ref 29, .int (nI b)] (flX 51 50 1 0 h (gvF P o L rl b) hi q) Q' = Q' (some (.int (zB (ti P o b).isSome))) (flX 51 50 1 0 h (gvF P o L rl b) hi q) := fun Q' => c90 (HMa _ _ _) V TL2 hb
    have c6' : ∀ Q', aM (d + 1) 6 [.ref 50, .int (nI b), .ref 31] (flX 51 50 1 0 h (gvF P o L rl b) hi q) Q' = Q' (some (.int (nI (puR P (gvF P o L rl b) rl b)))) (flX 51 50 1 0 h (gvF P o L rl b) hi q) := fun Q' => c6 (HMa _ _ _) V hz2 eL hb4 (by omega) Jb hb e2 hrl
    have ew := flX_wL (a := 51) (f := 50) (kh := 1) (kp := 0) (h := h) (L := gvF P o L rl b) (hi := hi) (p := q) (v := some (puR P (gvF P o L rl b) rl b)) (x := nI (puR P (gvF P o L rl b) rl b)) (by decide) hb rfl
    -- what is ALIVE is there
    have gv : gvB P o b = ((mWr P b).isNone && (ti P o b).isSome) := by
      unfold gvB
      cases ht : ti P o b with
      | none => simp
      | some t =>
        have := (fr_ti ht).2.2
        rw [bne_iff_ne.mpr this, Bool.true_and]
    rw [s4_2, gvF, gv]
    cases hw : mWr P b with
    | some w =>
      rw [hw] at ex
      have hw2 := mWr_lt hw
      have s10 := V.s.1
      simp (disch := first | omega | assumption | exact gtP (HMa _ _ _) hp | exact gt_29 (HMa _ _ _) | exact gt_30 (HMa _ _ _) | exact gt_50 (HMa _ _ _) | (simp only [gT_pA, gT_pI, gT_pR]; first | assumption | exact gtP (HMa _ _ _) hp | exact gt_29 (HMa _ _ _) | exact gt_30 (HMa _ _ _) | exact gt_50 (HMa _ _ _)) | fail) only [s4_0, s4_1, s4_3, s4_5, s4_8, s4_9, s4_12, s4_15, s4_16, s4_17, s4_20, s4_21, s4_22, s4_25, s4_28, s4_29, s4_32, s4_33, s4_34, s4_35, s4_36, s4_39, s4_42, s4_45, s4_46, s4_49, s4_52, aiP_5 (HMa _ _ _) hp, aj_51 (HMa _ _ _), grP_4 (HMa _ _ _) hp, gr_29_0 (HMa _ _ _), gr_30_1 (HMa _ _ _), gr_50_3 (HMa _ _ _), gtP (HMa _ _ _) hp, gt_29 (HMa _ _ _), gt_30 (HMa _ _ _), gt_50 (HMa _ _ _), am4, isRf_ref, true_and, and_true, aPs_s, aPs_n, b01_0, b01_1, nI_clamp, ix_nI, inb_nI, lt_nI, eq_nI, nn_nI, eq0_nI, pk_mul, nI_add, lt_T, lt_F, if_true, if_false, true_and, and_true, neg1_nI, neg1_lt, neg1_neg, lt_neg1, eqN_F, eq_self,  hb, r3, ex, oI_s, nn_nI, Option.isNone_some, Bool.not_false, Bool.not_true, Bool.true_and, Bool.false_and, Bool.and_true, Bool.and_false, Bool.or_true, Bool.or_false, Bool.true_or, Bool.false_or, Bool.true_eq_false, Bool.false_eq_true, if_true, if_false, Option.isSome_some, Option.isSome_none, Option.isNone_some, Option.isNone_none, zB_t, zB_f, nI1_0, nI0_0]
    | none =>
      rw [hw] at ex
      cases ht : ti P o b with
      | none =>
        rw [ht] at c90'
        simp (disch := first | omega | assumption | exact gtP (HMa _ _ _) hp | exact gt_29 (HMa _ _ _) | exact gt_30 (HMa _ _ _) | exact gt_50 (HMa _ _ _) | (simp only [gT_pA, gT_pI, gT_pR]; first | assumption | exact gtP (HMa _ _ _) hp | exact gt_29 (HMa _ _ _) | exact gt_30 (HMa _ _ _) | exact gt_50 (HMa _ _ _)) | fail) only [s4_0, s4_1, s4_3, s4_5, s4_8, s4_9, s4_12, s4_15, s4_16, s4_17, s4_20, s4_21, s4_22, s4_25, s4_28, s4_29, s4_32, s4_33, s4_34, s4_35, s4_36, s4_39, s4_42, s4_45, s4_46, s4_49, s4_52, aiP_5 (HMa _ _ _) hp, aj_51 (HMa _ _ _), grP_4 (HMa _ _ _) hp, gr_29_0 (HMa _ _ _), gr_30_1 (HMa _ _ _), gr_50_3 (HMa _ _ _), gtP (HMa _ _ _) hp, gt_29 (HMa _ _ _), gt_30 (HMa _ _ _), gt_50 (HMa _ _ _), am4, isRf_ref, true_and, and_true, aPs_s, aPs_n, b01_0, b01_1, nI_clamp, ix_nI, inb_nI, lt_nI, eq_nI, nn_nI, eq0_nI, pk_mul, nI_add, lt_T, lt_F, if_true, if_false, true_and, and_true, neg1_nI, neg1_lt, neg1_neg, lt_neg1, eqN_F, eq_self,  hb, r3, ex, oI_n, iflt_m1, c90', Bool.not_false, Bool.not_true, Bool.true_and, Bool.false_and, Bool.and_true, Bool.and_false, Bool.or_true, Bool.or_false, Bool.true_or, Bool.false_or, Bool.true_eq_false, Bool.false_eq_true, if_true, if_false, Option.isSome_some, Option.isSome_none, Option.isNone_some, Option.isNone_none, zB_t, zB_f, nI1_0, nI0_0]
      | some t =>
        rw [ht] at c90'
        simp (disch := first | omega | assumption | exact gtP (HMa _ _ _) hp | exact gt_29 (HMa _ _ _) | exact gt_30 (HMa _ _ _) | exact gt_50 (HMa _ _ _) | (simp only [gT_pA, gT_pI, gT_pR]; first | assumption | exact gtP (HMa _ _ _) hp | exact gt_29 (HMa _ _ _) | exact gt_30 (HMa _ _ _) | exact gt_50 (HMa _ _ _)) | fail) only [s4_0, s4_1, s4_3, s4_5, s4_8, s4_9, s4_12, s4_15, s4_16, s4_17, s4_20, s4_21, s4_22, s4_25, s4_28, s4_29, s4_32, s4_33, s4_34, s4_35, s4_36, s4_39, s4_42, s4_45, s4_46, s4_49, s4_52, aiP_5 (HMa _ _ _) hp, aj_51 (HMa _ _ _), grP_4 (HMa _ _ _) hp, gr_29_0 (HMa _ _ _), gr_30_1 (HMa _ _ _), gr_50_3 (HMa _ _ _), gtP (HMa _ _ _) hp, gt_29 (HMa _ _ _), gt_30 (HMa _ _ _), gt_50 (HMa _ _ _), am4, isRf_ref, true_and, and_true, aPs_s, aPs_n, b01_0, b01_1, nI_clamp, ix_nI, inb_nI, lt_nI, eq_nI, nn_nI, eq0_nI, pk_mul, nI_add, lt_T, lt_F, if_true, if_false, true_and, and_true, neg1_nI, neg1_lt, neg1_neg, lt_neg1, eqN_F, eq_self,  hb, r3, ex, oI_n, iflt_m1, c90', Bool.not_false, Bool.not_true, Bool.true_and, Bool.false_and, Bool.and_true, Bool.and_false, Bool.or_true, Bool.or_false, Bool.true_or, Bool.false_or, Bool.true_eq_false, Bool.false_eq_true, if_true, if_false, Option.isSome_some, Option.isSome_none, Option.isNone_some, Option.isNone_none, zB_t, zB_f, nI1_0, nI0_0, c6', ew])
  simp (disch := first | omega | assumption | exact gtP (HMa _ _ _) hp | exact gt_29 (HMa _ _ _) | exact gt_30 (HMa _ _ _) | exact gt_50 (HMa _ _ _) | (simp only [gT_pA, gT_pI, gT_pR]; first | assumption | exact gtP (HMa _ _ _) hp | exact gt_29 (HMa _ _ _) | exact gt_30 (HMa _ _ _) | exact gt_50 (HMa _ _ _)) | fail) only [s4_0, s4_1, s4_3, s4_5, s4_8, s4_9, s4_12, s4_15, s4_16, s4_17, s4_20, s4_21, s4_22, s4_25, s4_28, s4_29, s4_32, s4_33, s4_34, s4_35, s4_36, s4_39, s4_42, s4_45, s4_46, s4_49, s4_52, aiP_5 (HMa _ _ _) hp, aj_51 (HMa _ _ _), grP_4 (HMa _ _ _) hp, gr_29_0 (HMa _ _ _), gr_30_1 (HMa _ _ _), gr_50_3 (HMa _ _ _), gtP (HMa _ _ _) hp, gt_29 (HMa _ _ _), gt_30 (HMa _ _ _), gt_50 (HMa _ _ _), am4, isRf_ref, true_and, and_true, aPs_s, aPs_n, b01_0, b01_1, nI_clamp, ix_nI, inb_nI, lt_nI, eq_nI, nn_nI, eq0_nI, pk_mul, nI_add, lt_T, lt_F, if_true, if_false, true_and, and_true, neg1_nI, neg1_lt, neg1_neg, lt_neg1, eqN_F, eq_self, ]
  exact loop
set_option maxHeartbeats 4000000 in
theorem c5 (H : KC h) {P : Nat → Nat → Int32} (V : okP P) (hz : ∀ b, b < 12 → gI h 31 b = nI (zS P b)) {L : Nat → Option Nat} {B rl w hi q : Nat} {ov : Option Nat} (hB : LB P L B) (hB2 : B < 2 ^ 30) (J : dj P L) (hw : w < 12) (hov : ∀ v, ov = some v → v < 12) (hr : gI h 50 2 = nI rl) (hrl : rl < 3) : aM (d + 2) 5 [.ref 50, .int (nI w), .int (oI ov), .ref 31] (flX 51 50 1 0 h L hi q) Q = Q none (flX 51 50 1 0 h (wrL P L rl w ov) hi q) := by
  have HMa : ∀ L hi q, KC (flX 51 50 1 0 h L hi q) := fun _ _ _ => H
  have e2 : gI (flX 51 50 1 0 h L hi q) 50 2 = nI rl := (flX_k (by decide) (by decide) (by decide)).trans hr
  have eL : ∀ c, c < 12 → gI (flX 51 50 1 0 h L hi q) 51 c = oI (L c) := fun c hc => flX_L (by decide) hc
  have hz2 : ∀ b', b' < 12 → gI (flX 51 50 1 0 h L hi q) 31 b' = nI (zS P b') := hz
  have c6' : ∀ Q', aM (d + 1) 6 [.ref 50, .int (nI w), .ref 31] (flX 51 50 1 0 h L hi q) Q' = Q' (some (.int (nI (puR P L rl w)))) (flX 51 50 1 0 h L hi q) := fun Q' => c6 (HMa _ _ _) V hz2 eL hB (by omega) J hw e2 hrl
  have ew := flX_wL (a := 51) (f := 50) (kh := 1) (kp := 0) (h := h) (L := L) (hi := hi) (p := q) (v := some (puR P L rl w)) (x := nI (puR P L rl w)) (by decide) hw rfl
  unfold wrL
  cases ov with
  | none => simp (disch := first | omega | assumption | exact gt_50 (HMa _ _ _) | (simp only [gT_pA, gT_pI, gT_pR]; first | assumption | exact gt_50 (HMa _ _ _)) | fail) only [s5_0, s5_1, s5_4, s5_5, s5_6, s5_7, s5_8, s5_9, s5_10, s5_13, s5_14, s5_17, s5_18, s5_19, s5_22, s5_23, s5_24, s5_25, s5_26, s5_29, s5_30, s5_31, s5_32, s5_35, s5_36, s5_39, s5_40, s5_41, s5_42, s5_43, s5_46, s5_47, ai_31 (HMa _ _ _), ai_51 (HMa _ _ _), aj_51 (HMa _ _ _), gr_50_3 (HMa _ _ _), gt_50 (HMa _ _ _), am5, isRf_ref, true_and, and_true, aPs_s, aPs_n, b01_0, b01_1, nI_clamp, ix_nI, inb_nI, lt_nI, eq_nI, nn_nI, eq0_nI, pk_mul, nI_add, lt_T, lt_F, if_true, if_false, true_and, and_true, neg1_nI, neg1_lt, neg1_neg, lt_neg1, eqN_F, eq_self,  oI_n, iflt_m1, hw, c6', ew]
  | some v =>
    have hv := hov v rfl
    have z1 := (zS_ok V hv).2
    have z2 := (zS_ok V hw).2
    have y1 := hz2 v hv
    have y2 := hz2 w hw
    by_cases h1 : zS P v < zS P w
    · simp (disch := first | omega | assumption | exact gt_50 (HMa _ _ _) | (simp only [gT_pA, gT_pI, gT_pR]; first | assumption | exact gt_50 (HMa _ _ _)) | fail) only [s5_0, s5_1, s5_4, s5_5, s5_6, s5_7, s5_8, s5_9, s5_10, s5_13, s5_14, s5_17, s5_18, s5_19, s5_22, s5_23, s5_24, s5_25, s5_26, s5_29, s5_30, s5_31, s5_32, s5_35, s5_36, s5_39, s5_40, s5_41, s5_42, s5_43, s5_46, s5_47, ai_31 (HMa _ _ _), ai_51 (HMa _ _ _), aj_51 (HMa _ _ _), gr_50_3 (HMa _ _ _), gt_50 (HMa _ _ _), am5, isRf_ref, true_and, and_true, aPs_s, aPs_n, b01_0, b01_1, nI_clamp, ix_nI, inb_nI, lt_nI, eq_nI, nn_nI, eq0_nI, pk_mul, nI_add, lt_T, lt_F, if_true, if_false, true_and, and_true, neg1_nI, neg1_lt, neg1_neg, lt_neg1, eqN_F, eq_self,  oI_s, nn_nI, hv, hw, y1, y2, h1, c6', ew]
    · have ew2 := flX_wL (a := 51) (f := 50) (kh := 1) (kp := 0) (h := h) (L := L) (hi := hi) (p := q) (v := L v) (x := gI (flX 51 50 1 0 h L hi q) 51 v) (by decide) hw (eL v hv)
      have ew3 := flX_wL (a := 51) (f := 50) (kh := 1) (kp := 0) (h := h) (L := updL L w (L v)) (hi := hi) (p := q) (v := none) (x := -1) (by decide) hv rfl
      simp (disch := first | omega | assumption | exact gt_50 (HMa _ _ _) | (simp only [gT_pA, gT_pI, gT_pR]; first | assumption | exact gt_50 (HMa _ _ _)) | fail) only [s5_0, s5_1, s5_4, s5_5, s5_6, s5_7, s5_8, s5_9, s5_10, s5_13, s5_14, s5_17, s5_18, s5_19, s5_22, s5_23, s5_24, s5_25, s5_26, s5_29, s5_30, s5_31, s5_32, s5_35, s5_36, s5_39, s5_40, s5_41, s5_42, s5_43, s5_46, s5_47, ai_31 (HMa _ _ _), ai_51 (HMa _ _ _), aj_51 (HMa _ _ _), gr_50_3 (HMa _ _ _), gt_50 (HMa _ _ _), am5, isRf_ref, true_and, and_true, aPs_s, aPs_n, b01_0, b01_1, nI_clamp, ix_nI, inb_nI, lt_nI, eq_nI, nn_nI, eq0_nI, pk_mul, nI_add, lt_T, lt_F, if_true, if_false, true_and, and_true, neg1_nI, neg1_lt, neg1_neg, lt_neg1, eqN_F, eq_self,  oI_s, nn_nI, hv, hw, y1, y2, h1, ew2, ew3]
set_option maxHeartbeats 8000000 in
theorem c3_82 (H : KC h) {P : Nat → Nat → Int32} (V : okP P) {o : Nat → Nat} (TLo : TL h P o) {L : Nat → Option Nat} {hi q : Nat} (hq : q < nS P) {l2 l3 : Value} : aW (d + 3) 3 82 [.ref 50, .ref 29, l2, l3, .int (nI 0)] [] (flX 51 50 1 0 h L hi q) Q = Q none (flX 51 50 1 0 h (reL P o L q) hi (q + 1)) := by
  have s10 := V.s.1
  have HMa : ∀ L hi q, KC (flX 51 50 1 0 h L hi q) := fun _ _ _ => H
  have loop := for_0 (F := fun b => aW (d + 3) 3 82 [.ref 50, .ref 29, l2, l3, .int (nI b)] [] (flX 51 50 1 0 h (reN P o L q b) hi q) Q) (R := Q none (flX 51 50 1 0 h (reL P o L q) hi (q + 1))) 12 (by
    have e0 := flX_p (a := 51) (f := 50) (kh := 1) (kp := 0) (h := h) (L := reN P o L q 12) (hi := hi) (p := q)
    have ew := flX_wp (a := 51) (f := 50) (kh := 1) (kp := 0) (h := h) (L := reN P o L q 12) (hi := hi) (p := q) (q := q + 1)
    have ee := flX_ext (a := 51) (f := 50) (kh := 1) (kp := 0) (h := h) (L := reN P o L q 12) (L' := reL P o L q) (hi := hi) (p := q + 1) (fun b hb => if_pos hb)
    rw [s3_82]
    simp (disch := first | omega | assumption | exact gt_29 (HMa _ _ _) | exact gt_30 (HMa _ _ _) | exact gt_50 (HMa _ _ _) | (simp only [gT_pA, gT_pI, gT_pR]; first | assumption | exact gt_29 (HMa _ _ _) | exact gt_30 (HMa _ _ _) | exact gt_50 (HMa _ _ _)) | fail) only [s3_0, s3_1, s3_4, s3_7, s3_8, s3_9, s3_12, s3_13, s3_16, s3_17, s3_18, s3_19, s3_22, s3_25, s3_26, s3_27, s3_30, s3_31, s3_32, s3_35, s3_38, s3_39, s3_40, s3_41, s3_44, s3_45, s3_48, s3_49, s3_50, s3_53, s3_54, s3_55, s3_58, s3_59, s3_60, s3_63, s3_64, s3_67, s3_70, s3_71, s3_72, s3_73, s3_76, s3_79, s3_80, s3_84, s3_86, s3_89, s3_90, s3_93, s3_95, s3_96, s3_97, s3_100, s3_103, s3_104, s3_107, s3_109, s3_110, s3_111, s3_114, s3_117, s3_118, s3_119, s3_122, s3_123, s3_124, s3_127, ai_32 (HMa _ _ _), ai_34 (HMa _ _ _), ai_35 (HMa _ _ _), ai_38 (HMa _ _ _), aj_51 (HMa _ _ _), gr_29_0 (HMa _ _ _), gr_29_4 (HMa _ _ _), gr_29_5 (HMa _ _ _), gr_29_8 (HMa _ _ _), gr_30_1 (HMa _ _ _), gr_30_2 (HMa _ _ _), gr_50_3 (HMa _ _ _), gt_29 (HMa _ _ _), gt_30 (HMa _ _ _), gt_50 (HMa _ _ _), am3, isRf_ref, true_and, and_true, aPs_s, aPs_n, b01_0, b01_1, nI_clamp, ix_nI, inb_nI, lt_nI, eq_nI, nn_nI, eq0_nI, pk_mul, nI_add, lt_T, lt_F, if_true, if_false, true_and, and_true, neg1_nI, neg1_lt, neg1_neg, lt_neg1, eqN_F, eq_self,  Nat.lt_irrefl, e0, ew, ee]) (fun b hb => by
    have e0 := flX_p (a := 51) (f := 50) (kh := 1) (kp := 0) (h := h) (L := reN P o L q b) (hi := hi) (p := q)
    have e38 : gI (flX 51 50 1 0 h (reN P o L q b) hi q) 38 b = oI (ti P o b) := (TLo.2 b hb).2
    rw [s3_82, ← reN_up]
    have es : reN P o L q b b = L b := by unfold reN; rw [if_neg (by omega)]
    unfold reL
    cases ht : ti P o b with
    | none =>
      have ew := flX_wL (a := 51) (f := 50) (kh := 1) (kp := 0) (h := h) (L := reN P o L q b) (hi := hi) (p := q) (v := none) (x := -1) (by decide) hb rfl
      simp (disch := first | omega | assumption | exact gt_29 (HMa _ _ _) | exact gt_30 (HMa _ _ _) | exact gt_50 (HMa _ _ _) | (simp only [gT_pA, gT_pI, gT_pR]; first | assumption | exact gt_29 (HMa _ _ _) | exact gt_30 (HMa _ _ _) | exact gt_50 (HMa _ _ _)) | fail) only [s3_0, s3_1, s3_4, s3_7, s3_8, s3_9, s3_12, s3_13, s3_16, s3_17, s3_18, s3_19, s3_22, s3_25, s3_26, s3_27, s3_30, s3_31, s3_32, s3_35, s3_38, s3_39, s3_40, s3_41, s3_44, s3_45, s3_48, s3_49, s3_50, s3_53, s3_54, s3_55, s3_58, s3_59, s3_60, s3_63, s3_64, s3_67, s3_70, s3_71, s3_72, s3_73, s3_76, s3_79, s3_80, s3_84, s3_86, s3_89, s3_90, s3_93, s3_95, s3_96, s3_97, s3_100, s3_103, s3_104, s3_107, s3_109, s3_110, s3_111, s3_114, s3_117, s3_118, s3_119, s3_122, s3_123, s3_124, s3_127, ai_32 (HMa _ _ _), ai_34 (HMa _ _ _), ai_35 (HMa _ _ _), ai_38 (HMa _ _ _), aj_51 (HMa _ _ _), gr_29_0 (HMa _ _ _), gr_29_4 (HMa _ _ _), gr_29_5 (HMa _ _ _), gr_29_8 (HMa _ _ _), gr_30_1 (HMa _ _ _), gr_30_2 (HMa _ _ _), gr_50_3 (HMa _ _ _), gt_29 (HMa _ _ _), gt_30 (HMa _ _ _), gt_50 (HMa _ _ _), am3, isRf_ref, true_and, and_true, aPs_s, aPs_n, b01_0, b01_1, nI_clamp, ix_nI, inb_nI, lt_nI, eq_nI, nn_nI, eq0_nI, pk_mul, nI_add, lt_T, lt_F, if_true, if_false, true_and, and_true, neg1_nI, neg1_lt, neg1_neg, lt_neg1, eqN_F, eq_self,  hb, e0, e38, ht, oI_n, lt_neg1, ew]
    | some t =>
      have := (fr_ti ht).2.1
      by_cases h1 : q < t
      · have e9 : updL (reN P o L q b) b (L b) = reN P o L q b := by rw [← es]; exact updL_self
        simp (disch := first | omega | assumption | exact gt_29 (HMa _ _ _) | exact gt_30 (HMa _ _ _) | exact gt_50 (HMa _ _ _) | (simp only [gT_pA, gT_pI, gT_pR]; first | assumption | exact gt_29 (HMa _ _ _) | exact gt_30 (HMa _ _ _) | exact gt_50 (HMa _ _ _)) | fail) only [s3_0, s3_1, s3_4, s3_7, s3_8, s3_9, s3_12, s3_13, s3_16, s3_17, s3_18, s3_19, s3_22, s3_25, s3_26, s3_27, s3_30, s3_31, s3_32, s3_35, s3_38, s3_39, s3_40, s3_41, s3_44, s3_45, s3_48, s3_49, s3_50, s3_53, s3_54, s3_55, s3_58, s3_59, s3_60, s3_63, s3_64, s3_67, s3_70, s3_71, s3_72, s3_73, s3_76, s3_79, s3_80, s3_84, s3_86, s3_89, s3_90, s3_93, s3_95, s3_96, s3_97, s3_100, s3_103, s3_104, s3_107, s3_109, s3_110, s3_111, s3_114, s3_117, s3_118, s3_119, s3_122, s3_123, s3_124, s3_127, ai_32 (HMa _ _ _), ai_34 (HMa _ _ _), ai_35 (HMa _ _ _), ai_38 (HMa _ _ _), aj_51 (HMa _ _ _), gr_29_0 (HMa _ _ _), gr_29_4 (HMa _ _ _), gr_29_5 (HMa _ _ _), gr_29_8 (HMa _ _ _), gr_30_1 (HMa _ _ _), gr_30_2 (HMa _ _ _), gr_50_3 (HMa _ _ _), gt_29 (HMa _ _ _), gt_30 (HMa _ _ _), gt_50 (HMa _ _ _), am3, isRf_ref, true_and, and_true, aPs_s, aPs_n, b01_0, b01_1, nI_clamp, ix_nI, inb_nI, lt_nI, eq_nI, nn_nI, eq0_nI, pk_mul, nI_add, lt_T, lt_F, if_true, if_false, true_and, and_true, neg1_nI, neg1_lt, neg1_neg, lt_neg1, eqN_F, eq_self,  hb, e0, e38, ht, oI_s, h1, e9]
      · have ew := flX_wL (a := 51) (f := 50) (kh := 1) (kp := 0) (h := h) (L := reN P o L q b) (hi := hi) (p := q) (v := none) (x := -1) (by decide) hb rfl
        simp (disch := first | omega | assumption | exact gt_29 (HMa _ _ _) | exact gt_30 (HMa _ _ _) | exact gt_50 (HMa _ _ _) | (simp only [gT_pA, gT_pI, gT_pR]; first | assumption | exact gt_29 (HMa _ _ _) | exact gt_30 (HMa _ _ _) | exact gt_50 (HMa _ _ _)) | fail) only [s3_0, s3_1, s3_4, s3_7, s3_8, s3_9, s3_12, s3_13, s3_16, s3_17, s3_18, s3_19, s3_22, s3_25, s3_26, s3_27, s3_30, s3_31, s3_32, s3_35, s3_38, s3_39, s3_40, s3_41, s3_44, s3_45, s3_48, s3_49, s3_50, s3_53, s3_54, s3_55, s3_58, s3_59, s3_60, s3_63, s3_64, s3_67, s3_70, s3_71, s3_72, s3_73, s3_76, s3_79, s3_80, s3_84, s3_86, s3_89, s3_90, s3_93, s3_95, s3_96, s3_97, s3_100, s3_103, s3_104, s3_107, s3_109, s3_110, s3_111, s3_114, s3_117, s3_118, s3_119, s3_122, s3_123, s3_124, s3_127, ai_32 (HMa _ _ _), ai_34 (HMa _ _ _), ai_35 (HMa _ _ _), ai_38 (HMa _ _ _), aj_51 (HMa _ _ _), gr_29_0 (HMa _ _ _), gr_29_4 (HMa _ _ _), gr_29_5 (HMa _ _ _), gr_29_8 (HMa _ _ _), gr_30_1 (HMa _ _ _), gr_30_2 (HMa _ _ _), gr_50_3 (HMa _ _ _), gt_29 (HMa _ _ _), gt_30 (HMa _ _ _), gt_50 (HMa _ _ _), am3, isRf_ref, true_and, and_true, aPs_s, aPs_n, b01_0, b01_1, nI_clamp, ix_nI, inb_nI, lt_nI, eq_nI, nn_nI, eq0_nI, pk_mul, nI_add, lt_T, lt_F, if_true, if_false, true_and, and_true, neg1_nI, neg1_lt, neg1_neg, lt_neg1, eqN_F, eq_self,  hb, e0, e38, ht, oI_s, h1, ew])
  have e0 : flX 51 50 1 0 h (reN P o L q 0) hi q = flX 51 50 1 0 h L hi q := flX_ext (fun b hb => rfl)
  rw [e0] at loop
  exact loop
end C10
