/-! THE CLASS: what its objects are, what they show of a program -/
theorem gtP {h : abH} (H : KC h) {p : Nat} (hp : p = 5 ∨ p = 17) : gT h p = some (8, 12) := by rcases hp with rfl | rfl; exact gt_5 H; exact gt_17 H
theorem grP_0 {h : abH} (H : KC h) {p : Nat} (hp : p = 5 ∨ p = 17) : gR h p 0 = .ref (p + 1) := by rcases hp with rfl | rfl; exact gr_5_0 H; exact gr_17_0 H
theorem grP_1 {h : abH} (H : KC h) {p : Nat} (hp : p = 5 ∨ p = 17) : gR h p 1 = .ref (p + 2) := by rcases hp with rfl | rfl; exact gr_5_1 H; exact gr_17_1 H
theorem grP_2 {h : abH} (H : KC h) {p : Nat} (hp : p = 5 ∨ p = 17) : gR h p 2 = .ref (p + 3) := by rcases hp with rfl | rfl; exact gr_5_2 H; exact gr_17_2 H
theorem grP_3 {h : abH} (H : KC h) {p : Nat} (hp : p = 5 ∨ p = 17) : gR h p 3 = .ref (p + 4) := by rcases hp with rfl | rfl; exact gr_5_3 H; exact gr_17_3 H
theorem grP_4 {h : abH} (H : KC h) {p : Nat} (hp : p = 5 ∨ p = 17) : gR h p 4 = .ref (p + 5) := by rcases hp with rfl | rfl; exact gr_5_4 H; exact gr_17_4 H
theorem grP_5 {h : abH} (H : KC h) {p : Nat} (hp : p = 5 ∨ p = 17) : gR h p 5 = .ref (p + 6) := by rcases hp with rfl | rfl; exact gr_5_5 H; exact gr_17_5 H
theorem grP_7 {h : abH} (H : KC h) {p : Nat} (hp : p = 5 ∨ p = 17) : gR h p 7 = .ref (p + 7) := by rcases hp with rfl | rfl; exact gr_5_7 H; exact gr_17_7 H
theorem grP_8 {h : abH} (H : KC h) {p : Nat} (hp : p = 5 ∨ p = 17) : gR h p 8 = .ref (p + 8) := by rcases hp with rfl | rfl; exact gr_5_8 H; exact gr_17_8 H
theorem grP_9 {h : abH} (H : KC h) {p : Nat} (hp : p = 5 ∨ p = 17) : gR h p 9 = .ref (p + 9) := by rcases hp with rfl | rfl; exact gr_5_9 H; exact gr_17_9 H
theorem grP_10 {h : abH} (H : KC h) {p : Nat} (hp : p = 5 ∨ p = 17) : gR h p 10 = .ref (p + 10) := by rcases hp with rfl | rfl; exact gr_5_10 H; exact gr_17_10 H
theorem grP_11 {h : abH} (H : KC h) {p : Nat} (hp : p = 5 ∨ p = 17) : gR h p 11 = .ref (p + 11) := by rcases hp with rfl | rfl; exact gr_5_11 H; exact gr_17_11 H
theorem aiP_1 {h : abH} (H : KC h) {p : Nat} (hp : p = 5 ∨ p = 17) : aI h (p + 1) = 12 := by rcases hp with rfl | rfl; exact ai_6 H; exact ai_18 H
theorem ajP_1 {h : abH} (H : KC h) {p : Nat} (hp : p = 5 ∨ p = 17) : aJ h (p + 1) = 12 := by rcases hp with rfl | rfl; exact aj_6 H; exact aj_18 H
theorem aiP_2 {h : abH} (H : KC h) {p : Nat} (hp : p = 5 ∨ p = 17) : aI h (p + 2) = 48 := by rcases hp with rfl | rfl; exact ai_7 H; exact ai_19 H
theorem ajP_2 {h : abH} (H : KC h) {p : Nat} (hp : p = 5 ∨ p = 17) : aJ h (p + 2) = 48 := by rcases hp with rfl | rfl; exact aj_7 H; exact aj_19 H
theorem aiP_3 {h : abH} (H : KC h) {p : Nat} (hp : p = 5 ∨ p = 17) : aI h (p + 3) = 48 := by rcases hp with rfl | rfl; exact ai_8 H; exact ai_20 H
theorem ajP_3 {h : abH} (H : KC h) {p : Nat} (hp : p = 5 ∨ p = 17) : aJ h (p + 3) = 48 := by rcases hp with rfl | rfl; exact aj_8 H; exact aj_20 H
theorem aiP_5 {h : abH} (H : KC h) {p : Nat} (hp : p = 5 ∨ p = 17) : aI h (p + 5) = 12 := by rcases hp with rfl | rfl; exact ai_10 H; exact ai_22 H
theorem ajP_5 {h : abH} (H : KC h) {p : Nat} (hp : p = 5 ∨ p = 17) : aJ h (p + 5) = 12 := by rcases hp with rfl | rfl; exact aj_10 H; exact aj_22 H
theorem aiP_6 {h : abH} (H : KC h) {p : Nat} (hp : p = 5 ∨ p = 17) : aI h (p + 6) = 12 := by rcases hp with rfl | rfl; exact ai_11 H; exact ai_23 H
theorem ajP_6 {h : abH} (H : KC h) {p : Nat} (hp : p = 5 ∨ p = 17) : aJ h (p + 6) = 12 := by rcases hp with rfl | rfl; exact aj_11 H; exact aj_23 H
theorem aiP_7 {h : abH} (H : KC h) {p : Nat} (hp : p = 5 ∨ p = 17) : aI h (p + 7) = 10 := by rcases hp with rfl | rfl; exact ai_12 H; exact ai_24 H
theorem ajP_7 {h : abH} (H : KC h) {p : Nat} (hp : p = 5 ∨ p = 17) : aJ h (p + 7) = 10 := by rcases hp with rfl | rfl; exact aj_12 H; exact aj_24 H
theorem aiP_8 {h : abH} (H : KC h) {p : Nat} (hp : p = 5 ∨ p = 17) : aI h (p + 8) = 10 := by rcases hp with rfl | rfl; exact ai_13 H; exact ai_25 H
theorem ajP_8 {h : abH} (H : KC h) {p : Nat} (hp : p = 5 ∨ p = 17) : aJ h (p + 8) = 10 := by rcases hp with rfl | rfl; exact aj_13 H; exact aj_25 H
theorem aiP_9 {h : abH} (H : KC h) {p : Nat} (hp : p = 5 ∨ p = 17) : aI h (p + 9) = 10 := by rcases hp with rfl | rfl; exact ai_14 H; exact ai_26 H
theorem ajP_9 {h : abH} (H : KC h) {p : Nat} (hp : p = 5 ∨ p = 17) : aJ h (p + 9) = 10 := by rcases hp with rfl | rfl; exact aj_14 H; exact aj_26 H
theorem aiP_10 {h : abH} (H : KC h) {p : Nat} (hp : p = 5 ∨ p = 17) : aI h (p + 10) = 10 := by rcases hp with rfl | rfl; exact ai_15 H; exact ai_27 H
theorem ajP_10 {h : abH} (H : KC h) {p : Nat} (hp : p = 5 ∨ p = 17) : aJ h (p + 10) = 10 := by rcases hp with rfl | rfl; exact aj_15 H; exact aj_27 H
theorem aiP_11 {h : abH} (H : KC h) {p : Nat} (hp : p = 5 ∨ p = 17) : aI h (p + 11) = 40 := by rcases hp with rfl | rfl; exact ai_16 H; exact ai_28 H
theorem ajP_11 {h : abH} (H : KC h) {p : Nat} (hp : p = 5 ∨ p = 17) : aJ h (p + 11) = 40 := by rcases hp with rfl | rfl; exact aj_16 H; exact aj_28 H
theorem azP_4 {h : abH} (H : KC h) {p : Nat} (hp : p = 5 ∨ p = 17) : aZ h (p + 4) = 12 := by rcases hp with rfl | rfl; exact az_9 H; exact az_21 H
theorem grS {h : abH} (H : KC h) {s : Nat} (hs : s < 4) : gR h 56 s = .ref (57 + 2 * s) := by rcases (show s = 0 ∨ s = 1 ∨ s = 2 ∨ s = 3 by omega) with rfl | rfl | rfl | rfl; exact gr_56_0 H; exact gr_56_1 H; exact gr_56_2 H; exact gr_56_3 H
theorem gtS {h : abH} (H : KC h) {s : Nat} (hs : s < 4) : gT h (57 + 2 * s) = some (11, 3) := by rcases (show s = 0 ∨ s = 1 ∨ s = 2 ∨ s = 3 by omega) with rfl | rfl | rfl | rfl; exact gt_57 H; exact gt_59 H; exact gt_61 H; exact gt_63 H
theorem grS2 {h : abH} (H : KC h) {s : Nat} (hs : s < 4) : gR h (57 + 2 * s) 2 = .ref (58 + 2 * s) := by rcases (show s = 0 ∨ s = 1 ∨ s = 2 ∨ s = 3 by omega) with rfl | rfl | rfl | rfl; exact gr_57_2 H; exact gr_59_2 H; exact gr_61_2 H; exact gr_63_2 H
theorem aiS {h : abH} (H : KC h) {s : Nat} (hs : s < 4) : aI h (58 + 2 * s) = 40 := by rcases (show s = 0 ∨ s = 1 ∨ s = 2 ∨ s = 3 by omega) with rfl | rfl | rfl | rfl; exact ai_58 H; exact ai_60 H; exact ai_62 H; exact ai_64 H
theorem ajS {h : abH} (H : KC h) {s : Nat} (hs : s < 4) : aJ h (58 + 2 * s) = 40 := by rcases (show s = 0 ∨ s = 1 ∨ s = 2 ∨ s = 3 by omega) with rfl | rfl | rfl | rfl; exact aj_58 H; exact aj_60 H; exact aj_62 H; exact aj_64 H
/-- which of the first W STEPS WRITES a BUFFER -/
def wrN (A : Nat → Nat → Int32) (W b : Nat) : Option Nat := fst1 (fun s => A 75 s == nI b) W 0
/-- which of the first N STEPS READ a BUFFER -/
def rdM (A : Nat → Nat → Int32) (b : Nat) : Nat → Nat
  | 0 => 0
  | s + 1 => if mRdB A s b = true then rdM A b s ||| 2 ^ s else rdM A b s
theorem rdM_lt {A : Nat → Nat → Int32} {b : Nat} : ∀ {n : Nat}, rdM A b n < 2 ^ n := by
  intro n
  induction n with
  | zero => exact (by decide : 0 < 2 ^ 0)
  | succ n ih =>
    rw [rdM]
    have h2 : rdM A b n < 2 ^ (n + 1) := Nat.lt_of_lt_of_le ih (Nat.pow_le_pow_right (by decide) (by omega))
    split
    · exact or_lt h2 (by omega)
    · exact h2
theorem rdM_tb {A : Nat → Nat → Int32} {b j : Nat} : ∀ {n : Nat}, tb (rdM A b n) j = (decide (j < n) && mRdB A j b) := by
  intro n
  induction n with
  | zero => rw [rdM, tb_0]; simp
  | succ n ih =>
    rw [rdM]
    by_cases e : j = n
    · subst e
      split
      · rename_i h; rw [tb_or, ih, h]; simp
      · rename_i h; rw [ih]; simp at h ⊢; exact h
    · have h1 : decide (j < n + 1) = decide (j < n) := by
        apply decide_eq_decide.mpr
        omega
      split
      · rw [tb_or, ih, h1]; simp [e]
      · rw [ih, h1]
/-- is one set within another -/
def sbs (R D : Nat) : Bool := R &&& D == R
theorem sbs_iff {R D : Nat} : sbs R D = true ↔ ∀ j, tb R j = true → tb D j = true := by
  unfold sbs
  rw [beq_iff_eq]
  constructor
  · intro h j hj
    have : tb (R &&& D) j = true := by rw [h]; exact hj
    unfold tb at this hj ⊢
    rw [Nat.testBit_and, Bool.and_eq_true] at this
    exact this.2
  · intro h
    apply tb_ext
    intro j
    have := h j
    unfold tb at this ⊢
    rw [Nat.testBit_and]
    cases hR : R.testBit j with
    | false => rfl
    | true => rw [this hR]; rfl
theorem nd_0 {R D : Nat} (hR : R < 2 ^ 31) (hD : D < 2 ^ 31) : (nI R &&& (nI D ^^^ (-1)) = 0) = (sbs R D = true) := by
  have hx : nI D ^^^ (-1) = ~~~ nI D := by
    apply Int32.toBitVec_inj.mp
    rw [Int32.toBitVec_xor, Int32.toBitVec_not]
    have : (-1 : Int32).toBitVec = BitVec.allOnes 32 := by decide
    rw [this, BitVec.xor_allOnes]
  rw [hx]
  have e1 : (nI R &&& ~~~ nI D = 0) = (nI R &&& nI D = nI R) := by
    apply propext
    constructor
    · intro h
      have h := congrArg Int32.toBitVec h
      rw [Int32.toBitVec_and, Int32.toBitVec_not] at h
      apply Int32.toBitVec_inj.mp
      rw [Int32.toBitVec_and]
      apply BitVec.eq_of_getLsbD_eq
      intro i hi
      have h := congrArg (fun z : BitVec 32 => z.getLsbD i) h
      simp [hi] at h
      rw [BitVec.getLsbD_and, BitVec.getLsbD_eq_getElem hi, BitVec.getLsbD_eq_getElem hi]
      cases hq : (nI R).toBitVec[i] with
      | false => rfl
      | true => rw [h hq]; rfl
    · intro h
      have h := congrArg Int32.toBitVec h
      rw [Int32.toBitVec_and] at h
      apply Int32.toBitVec_inj.mp
      rw [Int32.toBitVec_and, Int32.toBitVec_not]
      apply BitVec.eq_of_getLsbD_eq
      intro i hi
      have h := congrArg (fun z : BitVec 32 => z.getLsbD i) h
      simp at h
      simp [hi]
      exact h
  rw [e1, nI_and, eq_nI (Nat.lt_of_le_of_lt Nat.and_le_left hR) hR]
  unfold sbs
  simp
/-- what a heap shows of a program at p: N STEPS with what they READ, W with what they WRITE -/
def CPg (h : abH) (p : Nat) (A : Nat → Nat → Int32) (N W : Nat) : Prop :=
  gI h p 6 = nI N ∧
  (∀ b, b < 12 → gI h (p + 1) b = A 69 b ∧ gI h (p + 4) b = A 72 b ∧ gI h (p + 5) b = oI (wrN A W b) ∧ gI h (p + 6) b = nI (rdM A b N)) ∧
  (∀ b, b < 12 → ∀ k, k < ix (A 69 b) → gI h (p + 2) (4 * b + k) = A 70 (4 * b + k) ∧ gI h (p + 3) (4 * b + k) = A 71 (4 * b + k)) ∧
  (∀ s, s < N → gI h (p + 7) s = A 73 s ∧ gI h (p + 10) s = A 76 s ∧ ∀ k, k < nRc A s → gI h (p + 11) (4 * s + k) = A 77 (4 * s + k)) ∧
  ∀ s, s < W → gI h (p + 8) s = A 74 s ∧ gI h (p + 9) s = A 75 s
def CP (h : abH) (p : Nat) (A : Nat → Nat → Int32) : Prop := CPg h p A (nS A) (nS A)
/-- a program that is told well, and as a text tells it -/
def okT (A : Nat → Nat → Int32) (b : Nat) : Prop := (A 68 b = 0 → A 69 b = nI 0 ∧ A 72 b = 0) ∧ (A 68 b ≠ 0 → A 69 b ≠ nI 0)
def okW (P : Nat → Nat → Int32) : Prop := okP P ∧ (∀ b, b < 12 → okT P b) ∧ ∀ s, s < nS P → P 68 (nWt P s) ≠ 0 ∧ mWr P (nWt P s) = some s ∧ mRdB P s (nWt P s) = false ∧ ∀ k, k < nRc P s → P 68 (nRd P s k) ≠ 0
theorem okW.p {P : Nat → Nat → Int32} (W : okW P) : okP P := W.1
theorem CP.s {h : abH} {p : Nat} {P : Nat → Nat → Int32} (C : CP h p P) : gI h p 6 = nI (nS P) := C.1
theorem CP.c {h : abH} {p : Nat} {P : Nat → Nat → Int32} (C : CP h p P) (V : okP P) {s : Nat} (hs : s < nS P) : gI h (p + 10) s = nI (nRc P s) := (C.2.2.2.1 s hs).2.1.trans (V.c hs).1
theorem CP.k {h : abH} {p : Nat} {P : Nat → Nat → Int32} (C : CP h p P) (V : okP P) {s : Nat} (hs : s < nS P) : gI h (p + 7) s = nI (nK P s) := (C.2.2.2.1 s hs).1.trans (V.k hs).1
theorem CP.r {h : abH} {p : Nat} {P : Nat → Nat → Int32} (C : CP h p P) (V : okP P) {s k : Nat} (hs : s < nS P) (hk : k < nRc P s) : gI h (p + 11) (4 * s + k) = nI (nRd P s k) := ((C.2.2.2.1 s hs).2.2 k hk).trans (V.r hs hk).1
theorem CP.t {h : abH} {p : Nat} {P : Nat → Nat → Int32} (C : CP h p P) (V : okP P) {s : Nat} (hs : s < nS P) : gI h (p + 8) s = nI (nT P s) := (C.2.2.2.2 s hs).1.trans (V.t hs).1
theorem CP.w {h : abH} {p : Nat} {P : Nat → Nat → Int32} (C : CP h p P) (V : okP P) {s : Nat} (hs : s < nS P) : gI h (p + 9) s = nI (nWt P s) := (C.2.2.2.2 s hs).2.trans (V.w hs).1
theorem CP.x {h : abH} {p : Nat} {P : Nat → Nat → Int32} (C : CP h p P) {b : Nat} (hb : b < 12) : gI h (p + 5) b = oI (mWr P b) := (C.2.1 b hb).2.2.1
theorem CP.m {h : abH} {p : Nat} {P : Nat → Nat → Int32} (C : CP h p P) {b : Nat} (hb : b < 12) : gI h (p + 6) b = nI (rdM P b (nS P)) := (C.2.1 b hb).2.2.2
theorem CP.v {h : abH} {p : Nat} {P : Nat → Nat → Int32} (C : CP h p P) {b : Nat} (hb : b < 12) : gI h (p + 4) b = P 72 b := (C.2.1 b hb).2.1
theorem CP.l {h : abH} {p : Nat} {P : Nat → Nat → Int32} (C : CP h p P) {b : Nat} (hb : b < 12) : gI h (p + 1) b = P 69 b := (C.2.1 b hb).1
/-- what the KINDS are under -/
def AB (h : abH) : Prop := gI h 1 0 = -1 ∧ gI h 1 1 = nI 0 ∧ gI h 1 2 = nI 0 ∧ gI h 1 3 = nI 1 ∧ gI h 1 4 = nI 2 ∧ gI h 1 5 = nI 2
theorem unB_f {k o : Int32} (h0 : nI 0 ≠ o) (h1 : k ≠ o) (h2 : nI 1 = o → k ≠ nI 3) (h3 : nI 2 = o → k < nI 4) : unB k o = false := by
  unfold unB
  apply decide_eq_false
  rintro (h | h | ⟨h, h'⟩ | ⟨h, h'⟩)
  · exact h0 h.symm
  · exact h1 h
  · exact h2 h.symm h'
  · exact h' (h3 h.symm)
theorem plc_neg {k : Int32} {n : Nat} (h : k < 0) : plc k n = none := if_pos h
section C1
variable {d : Nat} {h : abH} {Q : Option Value → abH → Prop}
theorem c20 {k : Int32} : aM d 20 [.int k] h Q = Q (some (.int (zB (plc k 6).isSome))) h := by
  rcases plc_cases k 6 (by omega) with ⟨j, hj, rfl, e⟩ | ⟨e, e1, e2⟩ | ⟨e, e1, e2, e3, e4⟩
  · simp (disch := first | omega | assumption | fail) only [s20_0, s20_1, s20_4, s20_5, s20_6, s20_9, s20_10, s20_13, s20_14, am20, isRf_ref, true_and, and_true, aPs_s, aPs_n, b01_0, b01_1, nI_clamp, ix_nI, inb_nI, lt_nI, eq_nI, nn_nI, eq0_nI, pk_mul, nI_add, lt_T, lt_F, if_true, if_false, true_and, and_true, neg1_nI, neg1_lt, neg1_neg, lt_neg1, eqN_F, eq_self,  e, Bool.not_false, Bool.not_true, Bool.true_and, Bool.false_and, Bool.and_true, Bool.and_false, Bool.or_true, Bool.or_false, Bool.true_or, Bool.false_or, Bool.true_eq_false, Bool.false_eq_true, if_true, if_false, Option.isSome_some, Option.isSome_none, Option.isNone_some, Option.isNone_none, zB_t, zB_f, nI1_0, nI0_0]
  · simp (disch := first | omega | assumption | fail) only [s20_0, s20_1, s20_4, s20_5, s20_6, s20_9, s20_10, s20_13, s20_14, am20, isRf_ref, true_and, and_true, aPs_s, aPs_n, b01_0, b01_1, nI_clamp, ix_nI, inb_nI, lt_nI, eq_nI, nn_nI, eq0_nI, pk_mul, nI_add, lt_T, lt_F, if_true, if_false, true_and, and_true, neg1_nI, neg1_lt, neg1_neg, lt_neg1, eqN_F, eq_self,  e, e1, Bool.not_false, Bool.not_true, Bool.true_and, Bool.false_and, Bool.and_true, Bool.and_false, Bool.or_true, Bool.or_false, Bool.true_or, Bool.false_or, Bool.true_eq_false, Bool.false_eq_true, if_true, if_false, Option.isSome_some, Option.isSome_none, Option.isNone_some, Option.isNone_none, zB_t, zB_f, nI1_0, nI0_0]
  · have e5 : nI 6 - nI 1 = nI 5 := by decide
    rw [e5] at e4
    simp (disch := first | omega | assumption | fail) only [s20_0, s20_1, s20_4, s20_5, s20_6, s20_9, s20_10, s20_13, s20_14, am20, isRf_ref, true_and, and_true, aPs_s, aPs_n, b01_0, b01_1, nI_clamp, ix_nI, inb_nI, lt_nI, eq_nI, nn_nI, eq0_nI, pk_mul, nI_add, lt_T, lt_F, if_true, if_false, true_and, and_true, neg1_nI, neg1_lt, neg1_neg, lt_neg1, eqN_F, eq_self,  e, e1, e4, Bool.not_false, Bool.not_true, Bool.true_and, Bool.false_and, Bool.and_true, Bool.and_false, Bool.or_true, Bool.or_false, Bool.true_or, Bool.false_or, Bool.true_eq_false, Bool.false_eq_true, if_true, if_false, Option.isSome_some, Option.isSome_none, Option.isNone_some, Option.isNone_none, zB_t, zB_f, nI1_0, nI0_0]
set_option maxHeartbeats 4000000 in
theorem c21 (H : KC h) (B : AB h) {k : Nat} (hk : k < 6) {o : Int32} : aM (d + 1) 21 [.int (nI k), .int o] h Q = Q (some (.int (zB (unB (nI k) o)))) h := by
  obtain ⟨b0, b1, b2, b3, b4, b5⟩ := B
  have c20' : ∀ Q', aM d 20 [.int (nI k)] h Q' = Q' (some (.int (nI 1))) h := fun Q' => by rw [c20, plc_nI hk (by decide)]; rfl
  have t1 := gt_1 H
  have ht : gT h 1 = some (100, 6) ∧ (1 : Nat) = 0 ∨ gT h 1 = some (101, 6) ∧ (1 : Nat) = 1 := Or.inr ⟨t1, rfl⟩
  have a1 : aI h 1 = 6 := ai_1 H
  have st : ∀ (j u : Nat) (v : Int32), j < 6 → u < 6 → gI h 1 j = v → aW (d + 1) 21 15 [.int (nI k), .int o, .int (nI j), .int (nI u)] [] h Q = (if nI j = o then Q (some (.int (nI 1))) h else aW (d + 1) 21 15 [.int (nI k), .int o, .int v, .int (nI (u + 1))] [] h Q) := by
    intro j u v hj hu hv
    rw [s21_15]
    simp (disch := first | omega | assumption | fail) only [s21_0, s21_1, s21_4, s21_7, s21_8, s21_11, s21_12, s21_13, s21_14, s21_16, s21_19, s21_20, s21_23, s21_24, s21_27, s21_28, s21_29, s21_32, s21_33, s21_34, s21_37, s21_38, s21_39, s21_40, s21_43, s21_46, s21_47, ai_1 H, am21, isRf_ref, true_and, and_true, aPs_s, aPs_n, b01_0, b01_1, nI_clamp, ix_nI, inb_nI, lt_nI, eq_nI, nn_nI, eq0_nI, pk_mul, nI_add, lt_T, lt_F, if_true, if_false, true_and, and_true, neg1_nI, neg1_lt, neg1_neg, lt_neg1, eqN_F, eq_self,  s21_19 ht, hj, hu, hv]
  have en : ∀ u : Nat, u < 6 → aW (d + 1) 21 15 [.int (nI k), .int o, .int (-1), .int (nI u)] [] h Q = Q (some (.int (nI 0))) h := by
    intro u hu
    rw [s21_15]
    simp (disch := first | omega | assumption | fail) only [s21_0, s21_1, s21_4, s21_7, s21_8, s21_11, s21_12, s21_13, s21_14, s21_16, s21_19, s21_20, s21_23, s21_24, s21_27, s21_28, s21_29, s21_32, s21_33, s21_34, s21_37, s21_38, s21_39, s21_40, s21_43, s21_46, s21_47, ai_1 H, am21, isRf_ref, true_and, and_true, aPs_s, aPs_n, b01_0, b01_1, nI_clamp, ix_nI, inb_nI, lt_nI, eq_nI, nn_nI, eq0_nI, pk_mul, nI_add, lt_T, lt_F, if_true, if_false, true_and, and_true, neg1_nI, neg1_lt, neg1_neg, lt_neg1, eqN_F, eq_self,  s21_19 ht, hu, iflt_m1]
  have run : aM (d + 1) 21 [.int (nI k), .int o] h Q = aW (d + 1) 21 15 [.int (nI k), .int o, .int (nI k), .int (nI 0)] [] h Q := by
    simp (disch := first | omega | assumption | fail) only [s21_0, s21_1, s21_4, s21_7, s21_8, s21_11, s21_12, s21_13, s21_14, s21_16, s21_19, s21_20, s21_23, s21_24, s21_27, s21_28, s21_29, s21_32, s21_33, s21_34, s21_37, s21_38, s21_39, s21_40, s21_43, s21_46, s21_47, ai_1 H, am21, isRf_ref, true_and, and_true, aPs_s, aPs_n, b01_0, b01_1, nI_clamp, ix_nI, inb_nI, lt_nI, eq_nI, nn_nI, eq0_nI, pk_mul, nI_add, lt_T, lt_F, if_true, if_false, true_and, and_true, neg1_nI, neg1_lt, neg1_neg, lt_neg1, eqN_F, eq_self,  c20', nI1_0]
  rw [run]
  rcases (show k = 0 ∨ k = 1 ∨ k = 2 ∨ k = 3 ∨ k = 4 ∨ k = 5 by omega) with rfl | rfl | rfl | rfl | rfl | rfl
  · rw [st 0 0 _ (by decide) (by decide) b0, en _ (by decide)]
    by_cases e : nI 0 = o
    · subst e; rw [if_pos rfl, show unB (nI 0) (nI 0) = true by decide +kernel]; rfl
    · rw [if_neg e, unB_f e e (fun _ => by decide +kernel) (fun _ => by decide +kernel)]; rfl
  · rw [st 1 0 _ (by decide) (by decide) b1, st 0 1 _ (by decide) (by decide) b0, en _ (by decide)]
    by_cases e : nI 1 = o
    · subst e; rw [if_pos rfl, show unB (nI 1) (nI 1) = true by decide +kernel]; rfl
    · by_cases e0 : nI 0 = o
      · subst e0; rw [if_neg e, if_pos rfl, show unB (nI 1) (nI 0) = true by decide +kernel]; rfl
      · rw [if_neg e, if_neg e0, unB_f e0 e (fun _ => by decide +kernel) (fun _ => by decide +kernel)]; rfl
  · rw [st 2 0 _ (by decide) (by decide) b2, st 0 1 _ (by decide) (by decide) b0, en _ (by decide)]
    by_cases e : nI 2 = o
    · subst e; rw [if_pos rfl, show unB (nI 2) (nI 2) = true by decide +kernel]; rfl
    · by_cases e0 : nI 0 = o
      · subst e0; rw [if_neg e, if_pos rfl, show unB (nI 2) (nI 0) = true by decide +kernel]; rfl
      · rw [if_neg e, if_neg e0, unB_f e0 e (fun _ => by decide +kernel) (fun _ => by decide +kernel)]; rfl
  · rw [st 3 0 _ (by decide) (by decide) b3, st 1 1 _ (by decide) (by decide) b1, st 0 2 _ (by decide) (by decide) b0, en _ (by decide)]
    by_cases e : nI 3 = o
    · subst e; rw [if_pos rfl, show unB (nI 3) (nI 3) = true by decide +kernel]; rfl
    · by_cases e1 : nI 1 = o
      · subst e1; rw [if_neg e, if_pos rfl, show unB (nI 3) (nI 1) = true by decide +kernel]; rfl
      · by_cases e0 : nI 0 = o
        · subst e0; rw [if_neg e, if_neg e1, if_pos rfl, show unB (nI 3) (nI 0) = true by decide +kernel]; rfl
        · rw [if_neg e, if_neg e1, if_neg e0, unB_f e0 e (fun q => absurd q e1) (fun _ => by decide +kernel)]; rfl
  · rw [st 4 0 _ (by decide) (by decide) b4, st 2 1 _ (by decide) (by decide) b2, st 0 2 _ (by decide) (by decide) b0, en _ (by decide)]
    by_cases e : nI 4 = o
    · subst e; rw [if_pos rfl, show unB (nI 4) (nI 4) = true by decide +kernel]; rfl
    · by_cases e1 : nI 2 = o
      · subst e1; rw [if_neg e, if_pos rfl, show unB (nI 4) (nI 2) = true by decide +kernel]; rfl
      · by_cases e0 : nI 0 = o
        · subst e0; rw [if_neg e, if_neg e1, if_pos rfl, show unB (nI 4) (nI 0) = true by decide +kernel]; rfl
        · rw [if_neg e, if_neg e1, if_neg e0, unB_f e0 e (fun _ => by decide +kernel) (fun q => absurd q e1)]; rfl
  · rw [st 5 0 _ (by decide) (by decide) b5, st 2 1 _ (by decide) (by decide) b2, st 0 2 _ (by decide) (by decide) b0, en _ (by decide)]
    by_cases e : nI 5 = o
    · subst e; rw [if_pos rfl, show unB (nI 5) (nI 5) = true by decide +kernel]; rfl
    · by_cases e1 : nI 2 = o
      · subst e1; rw [if_neg e, if_pos rfl, show unB (nI 5) (nI 2) = true by decide +kernel]; rfl
      · by_cases e0 : nI 0 = o
        · subst e0; rw [if_neg e, if_neg e1, if_pos rfl, show unB (nI 5) (nI 0) = true by decide +kernel]; rfl
        · rw [if_neg e, if_neg e1, if_neg e0, unB_f e0 e (fun _ => by decide +kernel) (fun q => absurd q e1)]; rfl
theorem unB_2 {k : Nat} (hk : k < 6) : unB (nI k) (nI 2) = kOver (nI k) := by
  rcases (show k = 0 ∨ k = 1 ∨ k = 2 ∨ k = 3 ∨ k = 4 ∨ k = 5 by omega) with rfl | rfl | rfl | rfl | rfl | rfl <;> decide +kernel
theorem c22 (H : KC h) (B : AB h) {k : Nat} (hk : k < 6) : aM (d + 2) 22 [.int (nI k)] h Q = Q (some (.int (zB (kOver (nI k))))) h := by
  have c21' : ∀ Q', aM (d + 1) 21 [.int (nI k), .int (nI 2)] h Q' = Q' (some (.int (zB (kOver (nI k))))) h := fun Q' => by rw [c21 H B hk, unB_2 hk]
  simp (disch := first | omega | assumption | fail) only [s22_0, s22_1, s22_2, s22_5, am22, isRf_ref, true_and, and_true, aPs_s, aPs_n, b01_0, b01_1, nI_clamp, ix_nI, inb_nI, lt_nI, eq_nI, nn_nI, eq0_nI, pk_mul, nI_add, lt_T, lt_F, if_true, if_false, true_and, and_true, neg1_nI, neg1_lt, neg1_neg, lt_neg1, eqN_F, eq_self,  c21', zB_b]
set_option maxHeartbeats 4000000 in
theorem c23 {k : Nat} (hk : k < 6) {t : Int32} : aM d 23 [.int (nI k), .int t] h Q = Q (some (.int (kTicks (nI k) t))) h := by
  unfold kTicks
  rcases (show k = 0 ∨ k = 1 ∨ k = 2 ∨ k = 3 ∨ k = 4 ∨ k = 5 by omega) with rfl | rfl | rfl | rfl | rfl | rfl <;> simp (disch := first | omega | assumption | fail) only [s23_0, s23_1, s23_32, s23_33, s23_34, s23_35, s23_36, s23_37, s23_38, s23_39, s23_40, s23_41, s23_42, s23_43, s23_44, s23_45, s23_46, s23_47, s23_48, s23_49, s23_50, s23_51, am23, isRf_ref, true_and, and_true, aPs_s, aPs_n, b01_0, b01_1, nI_clamp, ix_nI, inb_nI, lt_nI, eq_nI, nn_nI, eq0_nI, pk_mul, nI_add, lt_T, lt_F, if_true, if_false, true_and, and_true, neg1_nI, neg1_lt, neg1_neg, lt_neg1, eqN_F, eq_self,  nI2_0, not_false_eq_true]
set_option maxHeartbeats 4000000 in
theorem c24 {k : Nat} (hk : k < 6) {r w : Int32} : aM (d + 1) 24 [.int (nI k), .int r, .int w] h Q = Q (some (.int (kScr (nI k) r w))) h := by
  unfold kScr
  have e : iMax r w = if w < r then r else w := by
    unfold iMax
    by_cases h1 : r < w
    · have h2 : ¬ w < r := by rw [Int32.lt_iff_toInt_lt] at h1 ⊢; omega
      rw [if_pos h1, if_neg h2]
    · by_cases h2 : w < r
      · rw [if_neg h1, if_pos h2]
      · rw [if_neg h1, if_neg h2]
        apply Int32.toInt_inj.mp
        rw [Int32.lt_iff_toInt_lt] at h1 h2
        omega
  rcases (show k = 0 ∨ k = 1 ∨ k = 2 ∨ k = 3 ∨ k = 4 ∨ k = 5 by omega) with rfl | rfl | rfl | rfl | rfl | rfl <;> simp (disch := first | omega | assumption | fail) only [s24_0, s24_1, s24_32, s24_33, s24_34, s24_35, s24_36, s24_39, s24_40, s24_41, s24_42, s24_43, s24_44, s24_45, s24_46, s24_47, s24_49, s24_50, s24_51, s24_52, am24, isRf_ref, true_and, and_true, aPs_s, aPs_n, b01_0, b01_1, nI_clamp, ix_nI, inb_nI, lt_nI, eq_nI, nn_nI, eq0_nI, pk_mul, nI_add, lt_T, lt_F, if_true, if_false, true_and, and_true, neg1_nI, neg1_lt, neg1_neg, lt_neg1, eqN_F, eq_self,  nI2_0, nI8_0, not_false_eq_true, e]
end C1
