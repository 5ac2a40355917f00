/-! NUMBERS, BITS: general rows -/
theorem lt_T {a b : Nat} (h : a < b) : (a < b) = True := eq_true h
theorem lt_F {a b : Nat} (h : ¬ a < b) : (a < b) = False := eq_false h
theorem le_T {a b : Nat} (h : a ≤ b) : (a ≤ b) = True := eq_true h
theorem eqN_F {a b : Nat} (h : a ≠ b) : (a = b) = False := eq_false h
theorem bn_of {x : Int32} {n : Nat} (h : bn x n) : ∃ j, j < n ∧ x = nI j := ⟨ix x, h.2, h.1⟩
theorem ix_nI {j : Nat} (h : j < 2 ^ 31) : ix (nI j) = j := nI_clamp h
theorem bn_nI {j n : Nat} (h : j < n) (hn : n ≤ 2 ^ 31) : bn (nI j) n := by
  unfold bn
  rw [ix_nI (by omega)]
  exact ⟨rfl, h⟩
theorem neg1_nI {j : Nat} (h : j < 2 ^ 31) : (nI j = -1) = False := by
  apply eq_false
  intro e
  have := congrArg Int32.toInt e
  rw [nI_toInt h] at this
  have h2 : (-1 : Int32).toInt = -1 := by decide
  omega
theorem neg1_nI' {j : Nat} (h : j < 2 ^ 31) : ((-1 : Int32) = nI j) = False := (propext eq_comm).trans (neg1_nI h)
theorem neg1_lt {j : Nat} (h : j < 2 ^ 31) : ((-1 : Int32) < nI j) = True := by
  apply eq_true
  rw [Int32.lt_iff_toInt_lt, nI_toInt h]
  have h2 : (-1 : Int32).toInt = -1 := by decide
  omega
theorem neg1_neg : ((-1 : Int32) < 0) = True := by decide
theorem lt_neg1 {j : Nat} (h : j < 2 ^ 31) : (nI j < (-1 : Int32)) = False := by
  apply eq_false
  rw [Int32.lt_iff_toInt_lt, nI_toInt h]
  have h2 : (-1 : Int32).toInt = -1 := by decide
  omega
theorem eq0_nI {j : Nat} (h : j < 2 ^ 31) : (nI j = 0) = (j = 0) := by rw [← nI_0, eq_nI h (by decide)]
theorem nI_or (a b : Nat) : nI a ||| nI b = nI (a ||| b) := by
  unfold nI
  apply Int32.toBitVec_inj.mp
  simp [Int32.toBitVec_or, BitVec.ofNat_or]
theorem nI_and (a b : Nat) : nI a &&& nI b = nI (a &&& b) := by
  unfold nI
  apply Int32.toBitVec_inj.mp
  simp [Int32.toBitVec_and, BitVec.ofNat_and]
theorem nI_31 {s : Nat} (h : s < 32) : nI s &&& 31 = nI s := by
  have : (31 : Int32) = nI 31 := rfl
  rw [this, nI_and]
  congr 1
  have h2 := Nat.and_two_pow_sub_one_eq_mod s 5
  simp at h2
  rw [h2]
  omega
theorem nI_smod {s : Nat} (h : s < 32) : ((nI s).toBitVec.smod 32).toNat = s := by
  have key : ∀ i : Fin 32, ((nI i.val).toBitVec.smod 32).toNat = i.val := by decide +kernel
  exact key ⟨s, h⟩
theorem nI_shr {a s : Nat} (ha : a < 2 ^ 31) (hs : s < 32) : nI a >>> (nI s &&& 31) = nI (a / 2 ^ s) := by
  rw [nI_31 hs]
  exact pk_shrN ha _ s (nI_smod hs)
theorem nI_shl {a s : Nat} (hs : s < 32) (h : a * 2 ^ s < 2 ^ 32) : nI a <<< (nI s &&& 31) = nI (a * 2 ^ s) := by
  rw [nI_31 hs]
  exact pk_shlN _ s (nI_smod hs) h
/-- a bit of a set of STEPS or BUFFERS -/
def tb (D s : Nat) : Bool := D.testBit s
theorem tb_div {D s : Nat} : (D / 2 ^ s % 2 = 1) = (tb D s = true) := by
  unfold tb
  rw [Nat.testBit_eq_decide_div_mod_eq]
  simp
theorem bit_and {D s : Nat} (hD : D < 2 ^ 31) (hs : s < 32) : (nI D >>> (nI s &&& 31)) &&& nI 1 = nI (D / 2 ^ s % 2) := by
  rw [nI_shr hD hs, nI_and, Nat.and_one_is_mod]
theorem bit_1 {D s : Nat} (hD : D < 2 ^ 31) (hs : s < 32) : ((nI D >>> (nI s &&& 31)) &&& nI 1 = nI 1) = (tb D s = true) := by
  rw [bit_and hD hs, eq_nI (by omega) (by decide), tb_div]
theorem bit_0 {D s : Nat} (hD : D < 2 ^ 31) (hs : s < 32) : ((nI D >>> (nI s &&& 31)) &&& nI 1 = 0) = (tb D s = false) := by
  rw [bit_and hD hs, eq0_nI (by omega)]
  have h := tb_div (D := D) (s := s)
  cases hb : tb D s
  · rw [hb] at h
    have h2 : ¬ D / 2 ^ s % 2 = 1 := by rw [h]; simp
    apply propext
    simp
    omega
  · rw [hb] at h
    have h2 : D / 2 ^ s % 2 = 1 := by rw [h]
    apply propext
    simp
    omega
theorem nI_bit {D s : Nat} (hs : s < 31) : nI D ||| nI 1 <<< (nI s &&& 31) = nI (D ||| 2 ^ s) := by
  have h : 1 * 2 ^ s < 2 ^ 32 := by
    have := Nat.pow_lt_pow_right (a := 2) (by decide) (show s < 32 by omega)
    omega
  rw [nI_shl (by omega) h, nI_or, Nat.one_mul]
theorem tb_or {D s j : Nat} : tb (D ||| 2 ^ s) j = (tb D j || decide (j = s)) := by
  unfold tb
  rw [Nat.testBit_or, Nat.testBit_two_pow]
  congr 1
  exact decide_eq_decide.mpr eq_comm
theorem tb_0 {j : Nat} : tb 0 j = false := by unfold tb; simp
theorem tb_lt {D n j : Nat} (hD : D < 2 ^ n) (h : tb D j = true) : j < n := by
  unfold tb at h
  apply Nat.lt_of_not_le
  intro hn
  rw [Nat.testBit_lt_two_pow (Nat.lt_of_lt_of_le hD (Nat.pow_le_pow_right (by decide) hn))] at h
  cases h
theorem or_lt {D s n : Nat} (hD : D < 2 ^ n) (hs : s < n) : D ||| 2 ^ s < 2 ^ n := Nat.or_lt_two_pow hD (Nat.pow_lt_pow_right (by decide) hs)
theorem tb_ext {D E : Nat} (h : ∀ j, tb D j = tb E j) : D = E := Nat.eq_of_testBit_eq h
theorem tb_all {n j : Nat} : tb (2 ^ n - 1) j = decide (j < n) := by
  unfold tb
  rw [Nat.testBit_two_pow_sub_one]
/-- a yes or no, as a number -/
def zB (b : Bool) : Int32 := match b with
  | true => nI 1
  | false => nI 0
theorem zB_t : zB true = nI 1 := rfl
theorem zB_f : zB false = nI 0 := rfl
theorem zB_b {b : Bool} : b01 (zB b) = True := by cases b <;> simp only [zB, b01_0, b01_1]
theorem zB_0 {b : Bool} : (zB b = 0) = (b = false) := by cases b <;> simp [zB, nI1_0, nI0_0]
