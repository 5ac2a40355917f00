/-! THE CLASS: Reader, its heap -/
def rxF (h : abH) (q a : Nat) (x : Int32) (G : Nat → Nat → Int32) : Nat → Nat → Int32 := fun o => if q ≤ o ∧ o ≤ q + 11 then G (o - q) else if o = 3 then upd (upd (gI h 3) 2 (nI a)) 3 x else gI h o
def rxH (h : abH) (q a : Nat) (x : Int32) (G : Nat → Nat → Int32) : abH := (h.1, rxF h q a x G, h.2.2)
/-- the heap as a text is read: at a place, into a program -/
def rx (h : abH) (q : Nat) (c : Nat → Nat) (T a : Nat) (G : Nat → Nat → Int32) : abH := rxH h q a (oI (hr c T a)) G
theorem rx_p {h : abH} {q a k : Nat} {x : Int32} {G : Nat → Nat → Int32} (hk : k ≤ 11) : gI (rxH h q a x G) (q + k) = G k := by
  show rxF h q a x G (q + k) = G k
  unfold rxF
  rw [if_pos (by omega), show q + k - q = k by omega]
theorem rx_0 {h : abH} {q a : Nat} {x : Int32} {G : Nat → Nat → Int32} : gI (rxH h q a x G) q = G 0 := rx_p (k := 0) (Nat.zero_le _)
theorem rx_3 {h : abH} {q a : Nat} {x : Int32} {G : Nat → Nat → Int32} (hp : q = 5 ∨ q = 17) : gI (rxH h q a x G) 3 = upd (upd (gI h 3) 2 (nI a)) 3 x := by
  show rxF h q a x G 3 = _
  unfold rxF
  rw [if_neg (by omega), if_pos rfl]
theorem rx_o {h : abH} {q a o : Nat} {x : Int32} {G : Nat → Nat → Int32} (h1 : o ≠ 3) (h2 : o < q ∨ q + 11 < o) : gI (rxH h q a x G) o = gI h o := by
  show rxF h q a x G o = _
  unfold rxF
  rw [if_neg (by omega), if_neg h1]
theorem rx_w {h : abH} {q a k j : Nat} {x v : Int32} {G : Nat → Nat → Int32} (hk : k ≤ 11) : pI (rxH h q a x G) (q + k) j v = rxH h q a x (upA G k j v) := by
  unfold rxH
  rw [pI_def]
  unfold pA
  congr 2
  funext o
  by_cases e : o = q + k
  · subst e
    rw [if_pos rfl]
    show upd (rxF h q a x G (q + k)) j v = rxF h q a x (upA G k j v) (q + k)
    unfold rxF
    rw [if_pos (by omega), if_pos (by omega), show q + k - q = k by omega, upA_eq]
  · rw [if_neg e]
    show rxF h q a x G o = rxF h q a x (upA G k j v) o
    unfold rxF
    by_cases g : q ≤ o ∧ o ≤ q + 11
    · rw [if_pos g, if_pos g, upA_ne (by omega)]
    · rw [if_neg g, if_neg g]
theorem rx_w0 {h : abH} {q a j : Nat} {x v : Int32} {G : Nat → Nat → Int32} : pI (rxH h q a x G) q j v = rxH h q a x (upA G 0 j v) := rx_w (k := 0) (Nat.zero_le _)
theorem rx_g {h : abH} {q a a' : Nat} {x x' : Int32} {G : Nat → Nat → Int32} (hp : q = 5 ∨ q = 17) : pI (pI (rxH h q a x G) 3 2 (nI a')) 3 3 x' = rxH h q a' x' G := by
  rw [pI_def (o := 3) (k := 3), pI_def]
  simp only [gI_eq, pA_pA, rx_3 hp]
  unfold rxH pA
  congr 2
  funext o
  by_cases e : o = 3
  · subst e
    rw [if_pos rfl]
    unfold rxF
    rw [if_neg (by omega), if_pos rfl]
    funext k
    by_cases e1 : k = 3
    · subst e1; rw [upd_eq, upd_eq]
    · rw [upd_ne e1, upd_ne e1]
      by_cases e2 : k = 2
      · subst e2; rw [upd_eq, upd_eq]
      · rw [upd_ne e2, upd_ne e1, upd_ne e2, upd_ne e2]
  · rw [if_neg e]
    show rxF h q a x G o = rxF h q a' x' G o
    unfold rxF
    by_cases g : q ≤ o ∧ o ≤ q + 11
    · rw [if_pos g, if_pos g]
    · rw [if_neg g, if_neg g, if_neg e, if_neg e]
/-- the arrays of a program as a heap holds them -/
def rxV (h : abH) (q : Nat) : Nat → Nat → Int32 := fun k => gI h (q + k)
/-- THE TAPE of the class -/
def tpC (h : abH) (c : Nat → Nat) (T : Nat) : Prop := gI h 3 1 = nI T ∧ T ≤ 240 ∧ ∀ j, j < T → gI h 4 j = nI (c j) ∧ c j < 256
def bfO (c : Nat → Nat) (T a : Nat) : Option Nat := if inR (hr c T a) 97 108 = true then some (c a - 97) else none
def dgO (c : Nat → Nat) (T a : Nat) : Option Nat := if inR (hr c T a) 48 57 = true then some (c a - 48) else none
theorem bfO_lt {c : Nat → Nat} {T a b : Nat} (h : bfO c T a = some b) : b < 12 ∧ a < T := by
  unfold bfO at h
  by_cases g : inR (hr c T a) 97 108 = true
  · obtain ⟨h1, h2, h3, _⟩ := inR_of g
    rw [if_pos g] at h
    cases h
    exact ⟨by omega, h1⟩
  · rw [if_neg g] at h; cases h
theorem dgO_lt {c : Nat → Nat} {T a b : Nat} (h : dgO c T a = some b) : b < 10 ∧ a < T := by
  unfold dgO at h
  by_cases g : inR (hr c T a) 48 57 = true
  · obtain ⟨h1, h2, h3, _⟩ := inR_of g
    rw [if_pos g] at h
    cases h
    exact ⟨by omega, h1⟩
  · rw [if_neg g] at h; cases h
theorem hrC_lt {h : abH} {c : Nat → Nat} {T a : Nat} (C : tpC h c T) : ∀ j, hr c T a = some j → j < 256 := by
  intro j e
  obtain ⟨h1, h2⟩ := hr_some e
  have := (C.2.2 a h1).2
  omega
theorem in_some {x lo hi : Nat} : inR (some x) lo hi = true ↔ lo ≤ x ∧ x ≤ hi := by
  unfold inR
  simp
theorem nm2_dg {c : Nat → Nat} {T a : Nat} : nm2 c T a = (match dgO c T a with
    | none => (none, a)
    | some x => match dgO c T (a + 1) with
      | none => (some x, a + 1)
      | some y => (some (10 * x + y), a + 2)) := by
  unfold nm2 dgO
  by_cases g : inR (hr c T a) 48 57 = true
  · rw [if_pos g, if_pos g]
    by_cases g2 : inR (hr c T (a + 1)) 48 57 = true
    · rw [if_pos g2, if_pos g2]
    · rw [if_neg g2, if_neg g2]
  · rw [if_neg g, if_neg g]
section C18
variable {d q : Nat} {h : abH} {Q : Option Value → abH → Prop}
theorem rx_KC {c : Nat → Nat} {T a : Nat} {G : Nat → Nat → Int32} (H : KC h) : KC (rx h q c T a G) := H
theorem rx_hr {c : Nat → Nat} {T a : Nat} {G : Nat → Nat → Int32} (hp : q = 5 ∨ q = 17) : gI (rx h q c T a G) 3 3 = oI (hr c T a) := by unfold rx; rw [rx_3 hp, upd_eq]
theorem rx_at {c : Nat → Nat} {T a : Nat} {G : Nat → Nat → Int32} (hp : q = 5 ∨ q = 17) : gI (rx h q c T a G) 3 2 = nI a := by unfold rx; rw [rx_3 hp, upd_ne (by decide), upd_eq]
theorem rx_len {c : Nat → Nat} {T a : Nat} {G : Nat → Nat → Int32} (hp : q = 5 ∨ q = 17) : gI (rx h q c T a G) 3 1 = gI h 3 1 := by unfold rx; rw [rx_3 hp, upd_ne (by decide), upd_ne (by decide)]
set_option maxHeartbeats 4000000 in
theorem c70g (H : KC h) (hp : q = 5 ∨ q = 17) {c : Nat → Nat} {T a a' : Nat} {x : Int32} (C : tpC h c T) (ha : a' ≤ T) {G : Nat → Nat → Int32} : aM d 70 [.ref 3, .int (nI a')] (rxH h q a x G) Q = Q none (rx h q c T a' G) := by
  obtain ⟨c1, c2, c3⟩ := C
  have H1 : KC (rxH h q a x G) := H
  have H2 : KC (pI (rxH h q a x G) 3 2 (nI a')) := H
  have e1 : gI (pI (rxH h q a x G) 3 2 (nI a')) 3 1 = nI T := by rw [pI_def, gI_eq, upd_ne (by decide), rx_3 hp, upd_ne (by decide), upd_ne (by decide)]; exact c1
  have t3 := gt_3 H2
  have g0 := gr_3_0 H2
  have a4 := ai_4 H2
  by_cases h1 : a' < T
  · have e2 : gI (pI (rxH h q a x G) 3 2 (nI a')) 4 a' = nI (c a') := by
      rw [pI_def, gI_ne (by decide)]
      rw [rx_o (by decide) (by omega)]
      exact (c3 a' h1).1
    have ew : pI (pI (rxH h q a x G) 3 2 (nI a')) 3 3 (nI (c a')) = rx h q c T a' G := by
      rw [rx_g hp]
      unfold rx hr
      rw [if_pos h1]
      rfl
    simp (disch := first | omega | assumption | exact gt_3 H1 | (simp only [gT_pA, gT_pI, gT_pR]; first | assumption | exact gt_3 H1) | fail) only [s70_0, s70_1, s70_2, s70_5, s70_6, s70_7, s70_8, s70_11, s70_14, s70_15, s70_18, s70_19, s70_20, s70_23, s70_24, s70_27, ai_4 H1, gr_3_0 H1, gt_3 H1, am70, isRf_ref, true_and, and_true, aPs_s, aPs_n, b01_0, b01_1, nI_clamp, ix_nI, inb_nI, lt_nI, eq_nI, nn_nI, eq0_nI, pk_mul, nI_add, lt_T, lt_F, if_true, if_false, true_and, and_true, neg1_nI, neg1_lt, neg1_neg, lt_neg1, eqN_F, eq_self,  t3, e1, h1, g0, a4, e2, ew]
  · have ew : pI (pI (rxH h q a x G) 3 2 (nI a')) 3 3 (-1) = rx h q c T a' G := by
      rw [rx_g hp]
      unfold rx hr
      rw [if_neg h1]
      rfl
    simp (disch := first | omega | assumption | exact gt_3 H1 | (simp only [gT_pA, gT_pI, gT_pR]; first | assumption | exact gt_3 H1) | fail) only [s70_0, s70_1, s70_2, s70_5, s70_6, s70_7, s70_8, s70_11, s70_14, s70_15, s70_18, s70_19, s70_20, s70_23, s70_24, s70_27, ai_4 H1, gr_3_0 H1, gt_3 H1, am70, isRf_ref, true_and, and_true, aPs_s, aPs_n, b01_0, b01_1, nI_clamp, ix_nI, inb_nI, lt_nI, eq_nI, nn_nI, eq0_nI, pk_mul, nI_add, lt_T, lt_F, if_true, if_false, true_and, and_true, neg1_nI, neg1_lt, neg1_neg, lt_neg1, eqN_F, eq_self,  t3, e1, h1, ew]
theorem c70 (H : KC h) (hp : q = 5 ∨ q = 17) {c : Nat → Nat} {T a a' : Nat} (C : tpC h c T) (ha : a' ≤ T) {G : Nat → Nat → Int32} : aM d 70 [.ref 3, .int (nI a')] (rx h q c T a G) Q = Q none (rx h q c T a' G) := c70g H hp C ha
set_option maxHeartbeats 4000000 in
theorem c69 (H : KC h) (hp : q = 5 ∨ q = 17) {c : Nat → Nat} {T a : Nat} (C : tpC h c T) {G : Nat → Nat → Int32} : aM d 69 [.ref 3] (rx h q c T a G) Q = Q (some (.int (oI (bfO c T a)))) (rx h q c T a G) := by
  have H1 : KC (rx h q c T a G) := H
  have e := rx_hr (h := h) (c := c) (T := T) (a := a) (G := G) hp
  unfold bfO
  cases hq : hr c T a with
  | none =>
    rw [hq] at e
    have : inR (none : Option Nat) 97 108 = false := rfl
    simp (disch := first | omega | assumption | exact gt_3 H1 | (simp only [gT_pA, gT_pI, gT_pR]; first | assumption | exact gt_3 H1) | fail) only [s69_0, s69_1, s69_4, s69_6, s69_9, s69_10, s69_13, s69_15, s69_18, s69_19, s69_22, s69_24, s69_25, s69_28, s69_29, gt_3 H1, am69, isRf_ref, true_and, and_true, aPs_s, aPs_n, b01_0, b01_1, nI_clamp, ix_nI, inb_nI, lt_nI, eq_nI, nn_nI, eq0_nI, pk_mul, nI_add, lt_T, lt_F, if_true, if_false, true_and, and_true, neg1_nI, neg1_lt, neg1_neg, lt_neg1, eqN_F, eq_self,  e, oI_n, neg1_lt, this, Bool.not_false, Bool.not_true, Bool.true_and, Bool.false_and, Bool.and_true, Bool.and_false, Bool.or_true, Bool.or_false, Bool.true_or, Bool.false_or, Bool.true_eq_false, Bool.false_eq_true, if_true, if_false, Option.isSome_some, Option.isSome_none, Option.isNone_some, Option.isNone_none, zB_t, zB_f, nI1_0, nI0_0]
  | some x =>
    rw [hq] at e
    have hx := hrC_lt C x hq
    have hx2 := (hr_some hq).2
    by_cases h1 : x < 97
    · have : inR (some x) 97 108 = false := by cases g : inR (some x) 97 108 with | false => rfl | true => have := in_some.mp g; omega
      simp (disch := first | omega | assumption | exact gt_3 H1 | (simp only [gT_pA, gT_pI, gT_pR]; first | assumption | exact gt_3 H1) | fail) only [s69_0, s69_1, s69_4, s69_6, s69_9, s69_10, s69_13, s69_15, s69_18, s69_19, s69_22, s69_24, s69_25, s69_28, s69_29, gt_3 H1, am69, isRf_ref, true_and, and_true, aPs_s, aPs_n, b01_0, b01_1, nI_clamp, ix_nI, inb_nI, lt_nI, eq_nI, nn_nI, eq0_nI, pk_mul, nI_add, lt_T, lt_F, if_true, if_false, true_and, and_true, neg1_nI, neg1_lt, neg1_neg, lt_neg1, eqN_F, eq_self,  e, oI_s, h1, this, oI_n, Bool.not_false, Bool.not_true, Bool.true_and, Bool.false_and, Bool.and_true, Bool.and_false, Bool.or_true, Bool.or_false, Bool.true_or, Bool.false_or, Bool.true_eq_false, Bool.false_eq_true, if_true, if_false, Option.isSome_some, Option.isSome_none, Option.isNone_some, Option.isNone_none, zB_t, zB_f, nI1_0, nI0_0]
    · by_cases h2 : x < 109
      · have : inR (some x) 97 108 = true := in_some.mpr (by omega)
        have e5 : nI x - nI 97 = nI (c a - 97) := by rw [hx2]; exact pk_sub (by omega)
        simp (disch := first | omega | assumption | exact gt_3 H1 | (simp only [gT_pA, gT_pI, gT_pR]; first | assumption | exact gt_3 H1) | fail) only [s69_0, s69_1, s69_4, s69_6, s69_9, s69_10, s69_13, s69_15, s69_18, s69_19, s69_22, s69_24, s69_25, s69_28, s69_29, gt_3 H1, am69, isRf_ref, true_and, and_true, aPs_s, aPs_n, b01_0, b01_1, nI_clamp, ix_nI, inb_nI, lt_nI, eq_nI, nn_nI, eq0_nI, pk_mul, nI_add, lt_T, lt_F, if_true, if_false, true_and, and_true, neg1_nI, neg1_lt, neg1_neg, lt_neg1, eqN_F, eq_self,  e, oI_s, h1, h2, this, e5, Bool.not_false, Bool.not_true, Bool.true_and, Bool.false_and, Bool.and_true, Bool.and_false, Bool.or_true, Bool.or_false, Bool.true_or, Bool.false_or, Bool.true_eq_false, Bool.false_eq_true, if_true, if_false, Option.isSome_some, Option.isSome_none, Option.isNone_some, Option.isNone_none, zB_t, zB_f, nI1_0, nI0_0]
      · have : inR (some x) 97 108 = false := by cases g : inR (some x) 97 108 with | false => rfl | true => have := in_some.mp g; omega
        simp (disch := first | omega | assumption | exact gt_3 H1 | (simp only [gT_pA, gT_pI, gT_pR]; first | assumption | exact gt_3 H1) | fail) only [s69_0, s69_1, s69_4, s69_6, s69_9, s69_10, s69_13, s69_15, s69_18, s69_19, s69_22, s69_24, s69_25, s69_28, s69_29, gt_3 H1, am69, isRf_ref, true_and, and_true, aPs_s, aPs_n, b01_0, b01_1, nI_clamp, ix_nI, inb_nI, lt_nI, eq_nI, nn_nI, eq0_nI, pk_mul, nI_add, lt_T, lt_F, if_true, if_false, true_and, and_true, neg1_nI, neg1_lt, neg1_neg, lt_neg1, eqN_F, eq_self,  e, oI_s, h1, h2, this, oI_n, Bool.not_false, Bool.not_true, Bool.true_and, Bool.false_and, Bool.and_true, Bool.and_false, Bool.or_true, Bool.or_false, Bool.true_or, Bool.false_or, Bool.true_eq_false, Bool.false_eq_true, if_true, if_false, Option.isSome_some, Option.isSome_none, Option.isNone_some, Option.isNone_none, zB_t, zB_f, nI1_0, nI0_0]
set_option maxHeartbeats 4000000 in
theorem c68 (H : KC h) (hp : q = 5 ∨ q = 17) {c : Nat → Nat} {T a : Nat} (C : tpC h c T) {G : Nat → Nat → Int32} : aM d 68 [.ref 3] (rx h q c T a G) Q = Q (some (.int (oI (dgO c T a)))) (rx h q c T a G) := by
  have H1 : KC (rx h q c T a G) := H
  have e := rx_hr (h := h) (c := c) (T := T) (a := a) (G := G) hp
  unfold dgO
  cases hq : hr c T a with
  | none =>
    rw [hq] at e
    have : inR (none : Option Nat) 48 57 = false := rfl
    simp (disch := first | omega | assumption | exact gt_3 H1 | (simp only [gT_pA, gT_pI, gT_pR]; first | assumption | exact gt_3 H1) | fail) only [s68_0, s68_1, s68_4, s68_6, s68_9, s68_10, s68_13, s68_15, s68_18, s68_19, s68_22, s68_24, s68_25, s68_28, s68_29, gt_3 H1, am68, isRf_ref, true_and, and_true, aPs_s, aPs_n, b01_0, b01_1, nI_clamp, ix_nI, inb_nI, lt_nI, eq_nI, nn_nI, eq0_nI, pk_mul, nI_add, lt_T, lt_F, if_true, if_false, true_and, and_true, neg1_nI, neg1_lt, neg1_neg, lt_neg1, eqN_F, eq_self,  e, oI_n, neg1_lt, this, Bool.not_false, Bool.not_true, Bool.true_and, Bool.false_and, Bool.and_true, Bool.and_false, Bool.or_true, Bool.or_false, Bool.true_or, Bool.false_or, Bool.true_eq_false, Bool.false_eq_true, if_true, if_false, Option.isSome_some, Option.isSome_none, Option.isNone_some, Option.isNone_none, zB_t, zB_f, nI1_0, nI0_0]
  | some x =>
    rw [hq] at e
    have hx := hrC_lt C x hq
    have hx2 := (hr_some hq).2
    by_cases h1 : x < 48
    · have : inR (some x) 48 57 = false := by cases g : inR (some x) 48 57 with | false => rfl | true => have := in_some.mp g; omega
      simp (disch := first | omega | assumption | exact gt_3 H1 | (simp only [gT_pA, gT_pI, gT_pR]; first | assumption | exact gt_3 H1) | fail) only [s68_0, s68_1, s68_4, s68_6, s68_9, s68_10, s68_13, s68_15, s68_18, s68_19, s68_22, s68_24, s68_25, s68_28, s68_29, gt_3 H1, am68, isRf_ref, true_and, and_true, aPs_s, aPs_n, b01_0, b01_1, nI_clamp, ix_nI, inb_nI, lt_nI, eq_nI, nn_nI, eq0_nI, pk_mul, nI_add, lt_T, lt_F, if_true, if_false, true_and, and_true, neg1_nI, neg1_lt, neg1_neg, lt_neg1, eqN_F, eq_self,  e, oI_s, h1, this, oI_n, Bool.not_false, Bool.not_true, Bool.true_and, Bool.false_and, Bool.and_true, Bool.and_false, Bool.or_true, Bool.or_false, Bool.true_or, Bool.false_or, Bool.true_eq_false, Bool.false_eq_true, if_true, if_false, Option.isSome_some, Option.isSome_none, Option.isNone_some, Option.isNone_none, zB_t, zB_f, nI1_0, nI0_0]
    · by_cases h2 : 57 < x
      · have : inR (some x) 48 57 = false := by cases g : inR (some x) 48 57 with | false => rfl | true => have := in_some.mp g; omega
        simp (disch := first | omega | assumption | exact gt_3 H1 | (simp only [gT_pA, gT_pI, gT_pR]; first | assumption | exact gt_3 H1) | fail) only [s68_0, s68_1, s68_4, s68_6, s68_9, s68_10, s68_13, s68_15, s68_18, s68_19, s68_22, s68_24, s68_25, s68_28, s68_29, gt_3 H1, am68, isRf_ref, true_and, and_true, aPs_s, aPs_n, b01_0, b01_1, nI_clamp, ix_nI, inb_nI, lt_nI, eq_nI, nn_nI, eq0_nI, pk_mul, nI_add, lt_T, lt_F, if_true, if_false, true_and, and_true, neg1_nI, neg1_lt, neg1_neg, lt_neg1, eqN_F, eq_self,  e, oI_s, h1, h2, this, oI_n, Bool.not_false, Bool.not_true, Bool.true_and, Bool.false_and, Bool.and_true, Bool.and_false, Bool.or_true, Bool.or_false, Bool.true_or, Bool.false_or, Bool.true_eq_false, Bool.false_eq_true, if_true, if_false, Option.isSome_some, Option.isSome_none, Option.isNone_some, Option.isNone_none, zB_t, zB_f, nI1_0, nI0_0]
      · have : inR (some x) 48 57 = true := in_some.mpr (by omega)
        have e5 : nI x - nI 48 = nI (c a - 48) := by rw [hx2]; exact pk_sub (by omega)
        simp (disch := first | omega | assumption | exact gt_3 H1 | (simp only [gT_pA, gT_pI, gT_pR]; first | assumption | exact gt_3 H1) | fail) only [s68_0, s68_1, s68_4, s68_6, s68_9, s68_10, s68_13, s68_15, s68_18, s68_19, s68_22, s68_24, s68_25, s68_28, s68_29, gt_3 H1, am68, isRf_ref, true_and, and_true, aPs_s, aPs_n, b01_0, b01_1, nI_clamp, ix_nI, inb_nI, lt_nI, eq_nI, nn_nI, eq0_nI, pk_mul, nI_add, lt_T, lt_F, if_true, if_false, true_and, and_true, neg1_nI, neg1_lt, neg1_neg, lt_neg1, eqN_F, eq_self,  e, oI_s, h1, h2, this, e5, Bool.not_false, Bool.not_true, Bool.true_and, Bool.false_and, Bool.and_true, Bool.and_false, Bool.or_true, Bool.or_false, Bool.true_or, Bool.false_or, Bool.true_eq_false, Bool.false_eq_true, if_true, if_false, Option.isSome_some, Option.isSome_none, Option.isNone_some, Option.isNone_none, zB_t, zB_f, nI1_0, nI0_0]
set_option maxHeartbeats 4000000 in
theorem c67 (H : KC h) (hp : q = 5 ∨ q = 17) {c : Nat → Nat} {T a k : Nat} (C : tpC h c T) (hk : k < 2 ^ 31) {G : Nat → Nat → Int32} : aM (d + 1) 67 [.ref 3, .int (nI k)] (rx h q c T a G) Q = Q (some (.int (zB (hr c T a == some k)))) (rx h q c T (if (hr c T a == some k) = true then a + 1 else a) G) := by
  have H1 : KC (rx h q c T a G) := H
  have e := rx_hr (h := h) (c := c) (T := T) (a := a) (G := G) hp
  have e2 := rx_at (h := h) (c := c) (T := T) (a := a) (G := G) hp
  have eq := oI_eq (t := hr c T a) (k := k) (fun j e => by have := hrC_lt C j e; omega) hk
  rcases Bool.eq_false_or_eq_true (hr c T a == some k) with g | g
  · have ht := (hr_some (eq_of_beq g)).1
    have c70' : ∀ Q', aM d 70 [.ref 3, .int (nI (a + 1))] (rx h q c T a G) Q' = Q' none (rx h q c T (a + 1) G) := fun Q' => c70 H hp C (by omega)
    simp (disch := first | omega | assumption | exact gt_3 H1 | (simp only [gT_pA, gT_pI, gT_pR]; first | assumption | exact gt_3 H1) | fail) only [s67_0, s67_1, s67_4, s67_5, s67_8, s67_9, s67_10, s67_11, s67_12, s67_15, s67_16, s67_17, s67_20, s67_21, gt_3 H1, am67, isRf_ref, true_and, and_true, aPs_s, aPs_n, b01_0, b01_1, nI_clamp, ix_nI, inb_nI, lt_nI, eq_nI, nn_nI, eq0_nI, pk_mul, nI_add, lt_T, lt_F, if_true, if_false, true_and, and_true, neg1_nI, neg1_lt, neg1_neg, lt_neg1, eqN_F, eq_self,  e, eq, g, Bool.not_false, Bool.not_true, Bool.true_and, Bool.false_and, Bool.and_true, Bool.and_false, Bool.or_true, Bool.or_false, Bool.true_or, Bool.false_or, Bool.true_eq_false, Bool.false_eq_true, if_true, if_false, Option.isSome_some, Option.isSome_none, Option.isNone_some, Option.isNone_none, zB_t, zB_f, nI1_0, nI0_0, e2, c70']
  · simp (disch := first | omega | assumption | exact gt_3 H1 | (simp only [gT_pA, gT_pI, gT_pR]; first | assumption | exact gt_3 H1) | fail) only [s67_0, s67_1, s67_4, s67_5, s67_8, s67_9, s67_10, s67_11, s67_12, s67_15, s67_16, s67_17, s67_20, s67_21, gt_3 H1, am67, isRf_ref, true_and, and_true, aPs_s, aPs_n, b01_0, b01_1, nI_clamp, ix_nI, inb_nI, lt_nI, eq_nI, nn_nI, eq0_nI, pk_mul, nI_add, lt_T, lt_F, if_true, if_false, true_and, and_true, neg1_nI, neg1_lt, neg1_neg, lt_neg1, eqN_F, eq_self,  e, eq, g, Bool.not_false, Bool.not_true, Bool.true_and, Bool.false_and, Bool.and_true, Bool.and_false, Bool.or_true, Bool.or_false, Bool.true_or, Bool.false_or, Bool.true_eq_false, Bool.false_eq_true, if_true, if_false, Option.isSome_some, Option.isSome_none, Option.isNone_some, Option.isNone_none, zB_t, zB_f, nI1_0, nI0_0]
set_option maxHeartbeats 4000000 in
theorem c66 (H : KC h) (hp : q = 5 ∨ q = 17) {c : Nat → Nat} {T a : Nat} (C : tpC h c T) {G : Nat → Nat → Int32} : aM (d + 1) 66 [.ref 3] (rx h q c T a G) Q = Q (some (.int (oI (nm2 c T a).1))) (rx h q c T (nm2 c T a).2 G) := by
  have HMa : ∀ a, KC (rx h q c T a G) := fun _ => H
  have c68' : ∀ a Q', aM d 68 [.ref 3] (rx h q c T a G) Q' = Q' (some (.int (oI (dgO c T a)))) (rx h q c T a G) := fun a Q' => c68 H hp C
  have e2 := fun a => rx_at (h := h) (c := c) (T := T) (a := a) (G := G) hp
  have c70' : ∀ a a', a' ≤ T → ∀ Q', aM d 70 [.ref 3, .int (nI a')] (rx h q c T a G) Q' = Q' none (rx h q c T a' G) := fun a a' ha Q' => c70 H hp C ha
  rw [nm2_dg]
  cases h1 : dgO c T a with
  | none => simp (disch := first | omega | assumption | exact gt_3 (HMa _) | (simp only [gT_pA, gT_pI, gT_pR]; first | assumption | exact gt_3 (HMa _)) | fail) only [s66_0, s66_1, s66_4, s66_5, s66_6, s66_9, s66_10, s66_11, s66_12, s66_13, s66_16, s66_17, s66_18, s66_21, s66_22, s66_25, s66_26, s66_27, s66_30, s66_31, s66_32, s66_33, s66_34, s66_37, s66_38, s66_39, s66_42, s66_44, s66_45, s66_46, s66_47, s66_48, gt_3 (HMa _), am66, isRf_ref, true_and, and_true, aPs_s, aPs_n, b01_0, b01_1, nI_clamp, ix_nI, inb_nI, lt_nI, eq_nI, nn_nI, eq0_nI, pk_mul, nI_add, lt_T, lt_F, if_true, if_false, true_and, and_true, neg1_nI, neg1_lt, neg1_neg, lt_neg1, eqN_F, eq_self,  c68', h1, oI_n, iflt_m1]
  | some x =>
    obtain ⟨x1, x2⟩ := dgO_lt h1
    cases h2 : dgO c T (a + 1) with
    | none => simp (disch := first | omega | assumption | exact gt_3 (HMa _) | (simp only [gT_pA, gT_pI, gT_pR]; first | assumption | exact gt_3 (HMa _)) | fail) only [s66_0, s66_1, s66_4, s66_5, s66_6, s66_9, s66_10, s66_11, s66_12, s66_13, s66_16, s66_17, s66_18, s66_21, s66_22, s66_25, s66_26, s66_27, s66_30, s66_31, s66_32, s66_33, s66_34, s66_37, s66_38, s66_39, s66_42, s66_44, s66_45, s66_46, s66_47, s66_48, gt_3 (HMa _), am66, isRf_ref, true_and, and_true, aPs_s, aPs_n, b01_0, b01_1, nI_clamp, ix_nI, inb_nI, lt_nI, eq_nI, nn_nI, eq0_nI, pk_mul, nI_add, lt_T, lt_F, if_true, if_false, true_and, and_true, neg1_nI, neg1_lt, neg1_neg, lt_neg1, eqN_F, eq_self,  c68', h1, oI_s, nn_nI, e2, x2, c70', h2, oI_n, iflt_m1]
    | some y =>
      obtain ⟨y1, y2⟩ := dgO_lt h2
      simp (disch := first | omega | assumption | exact gt_3 (HMa _) | (simp only [gT_pA, gT_pI, gT_pR]; first | assumption | exact gt_3 (HMa _)) | fail) only [s66_0, s66_1, s66_4, s66_5, s66_6, s66_9, s66_10, s66_11, s66_12, s66_13, s66_16, s66_17, s66_18, s66_21, s66_22, s66_25, s66_26, s66_27, s66_30, s66_31, s66_32, s66_33, s66_34, s66_37, s66_38, s66_39, s66_42, s66_44, s66_45, s66_46, s66_47, s66_48, gt_3 (HMa _), am66, isRf_ref, true_and, and_true, aPs_s, aPs_n, b01_0, b01_1, nI_clamp, ix_nI, inb_nI, lt_nI, eq_nI, nn_nI, eq0_nI, pk_mul, nI_add, lt_T, lt_F, if_true, if_false, true_and, and_true, neg1_nI, neg1_lt, neg1_neg, lt_neg1, eqN_F, eq_self,  c68', h1, oI_s, nn_nI, e2, x2, c70', h2, y2]
theorem rx_ra {c : Nat → Nat} {T a k : Nat} {G : Nat → Nat → Int32} (hk : k ≤ 11) : gI (rx h q c T a G) (q + k) = G k := rx_p hk
theorem rx_r0 {c : Nat → Nat} {T a : Nat} {G : Nat → Nat → Int32} : gI (rx h q c T a G) q = G 0 := rx_0
theorem rx_wa {c : Nat → Nat} {T a k j : Nat} {v : Int32} {G : Nat → Nat → Int32} (hk : k ≤ 11) : pI (rx h q c T a G) (q + k) j v = rx h q c T a (upA G k j v) := rx_w hk
theorem rx_wz {c : Nat → Nat} {T a j : Nat} {v : Int32} {G : Nat → Nat → Int32} : pI (rx h q c T a G) q j v = rx h q c T a (upA G 0 j v) := rx_w0
set_option maxHeartbeats 4000000 in
theorem c46 (H : KC h) (hp : q = 5 ∨ q = 17) {c : Nat → Nat} {T a b n : Nat} {G : Nat → Nat → Int32} (hb : b < 12) (hn : n < 4) (e1 : G 1 b = nI n) {v l : Int32} : aM d 46 [.ref q, .int (nI b), .int v, .int l] (rx h q c T a G) Q = Q none (rx h q c T a (upA (upA (upA G 2 (4 * b + n) v) 3 (4 * b + n) l) 1 b (nI (n + 1)))) := by
  have HMa : ∀ G, KC (rx h q c T a G) := fun _ => H
  have u1 : upA G 2 (4 * b + n) v 1 = G 1 := upA_ne (by decide)
  have u2 : upA (upA G 2 (4 * b + n) v) 3 (4 * b + n) l 1 = G 1 := by rw [upA_ne (by decide), upA_ne (by decide)]
  simp (disch := first | omega | assumption | exact gtP (HMa _) hp | (simp only [gT_pA, gT_pI, gT_pR]; first | assumption | exact gtP (HMa _) hp) | fail) only [s46_0, s46_1, s46_4, s46_5, s46_6, s46_7, s46_10, s46_11, s46_12, s46_13, s46_14, s46_17, s46_18, s46_19, s46_20, s46_22, s46_23, s46_26, s46_28, s46_29, s46_30, s46_31, s46_34, s46_36, s46_37, s46_38, s46_39, s46_42, s46_43, s46_44, s46_45, s46_46, s46_47, s46_48, aiP_1 (HMa _) hp, ajP_1 (HMa _) hp, ajP_2 (HMa _) hp, ajP_3 (HMa _) hp, grP_0 (HMa _) hp, grP_1 (HMa _) hp, grP_2 (HMa _) hp, gtP (HMa _) hp, am46, isRf_ref, true_and, and_true, aPs_s, aPs_n, b01_0, b01_1, nI_clamp, ix_nI, inb_nI, lt_nI, eq_nI, nn_nI, eq0_nI, pk_mul, nI_add, lt_T, lt_F, if_true, if_false, true_and, and_true, neg1_nI, neg1_lt, neg1_neg, lt_neg1, eqN_F, eq_self,  rx_ra, hb, e1, hn, Nat.mul_comm b 4, rx_wa, u1, u2]
set_option maxHeartbeats 4000000 in
theorem c47 (H : KC h) (hp : q = 5 ∨ q = 17) {c : Nat → Nat} {T a s : Nat} {G : Nat → Nat → Int32} (hs : s < 10) (e0 : G 0 6 = nI s) {k : Int32} : aM d 47 [.ref q, .int k] (rx h q c T a G) Q = Q (some (.int (nI s))) (rx h q c T a (upA (upA (upA G 7 s k) 10 s (nI 0)) 0 6 (nI (s + 1)))) := by
  have HMa : ∀ G, KC (rx h q c T a G) := fun _ => H
  have u1 : upA (upA G 7 s k) 10 s (nI 0) 0 = G 0 := by rw [upA_ne (by decide), upA_ne (by decide)]
  simp (disch := first | omega | assumption | exact gtP (HMa _) hp | (simp only [gT_pA, gT_pI, gT_pR]; first | assumption | exact gtP (HMa _) hp) | fail) only [s47_0, s47_1, s47_4, s47_5, s47_6, s47_9, s47_10, s47_11, s47_12, s47_13, s47_16, s47_17, s47_18, s47_19, s47_20, s47_21, s47_24, s47_25, s47_26, s47_29, s47_30, ajP_10 (HMa _) hp, ajP_7 (HMa _) hp, grP_10 (HMa _) hp, grP_7 (HMa _) hp, gtP (HMa _) hp, am47, isRf_ref, true_and, and_true, aPs_s, aPs_n, b01_0, b01_1, nI_clamp, ix_nI, inb_nI, lt_nI, eq_nI, nn_nI, eq0_nI, pk_mul, nI_add, lt_T, lt_F, if_true, if_false, true_and, and_true, neg1_nI, neg1_lt, neg1_neg, lt_neg1, eqN_F, eq_self,  rx_ra, rx_r0, hs, e0, rx_wa, rx_wz, u1]
set_option maxHeartbeats 4000000 in
theorem c48 (H : KC h) (hp : q = 5 ∨ q = 17) {c : Nat → Nat} {T a s b n R : Nat} {G : Nat → Nat → Int32} (hs : s < 10) (hb : b < 12) (hn : n < 4) (e1 : G 10 s = nI n) (e2 : G 6 b = nI R) : aM d 48 [.ref q, .int (nI s), .int (nI b)] (rx h q c T a G) Q = Q none (rx h q c T a (upA (upA (upA G 11 (4 * s + n) (nI b)) 10 s (nI (n + 1))) 6 b (nI (R ||| 2 ^ s)))) := by
  have HMa : ∀ G, KC (rx h q c T a G) := fun _ => H
  have u1 : upA G 11 (4 * s + n) (nI b) 10 = G 10 := upA_ne (by decide)
  have u2 : upA (upA G 11 (4 * s + n) (nI b)) 10 s (nI (n + 1)) 6 = G 6 := by rw [upA_ne (by decide), upA_ne (by decide)]
  simp (disch := first | omega | assumption | exact gtP (HMa _) hp | (simp only [gT_pA, gT_pI, gT_pR]; first | assumption | exact gtP (HMa _) hp) | fail) only [s48_0, s48_1, s48_4, s48_5, s48_6, s48_7, s48_10, s48_11, s48_14, s48_15, s48_16, s48_17, s48_18, s48_21, s48_22, s48_23, s48_24, s48_25, s48_26, s48_27, s48_30, s48_31, s48_32, s48_33, s48_34, s48_35, s48_36, s48_37, s48_40, s48_41, s48_42, s48_43, s48_44, s48_45, s48_46, s48_47, s48_48, aiP_10 (HMa _) hp, aiP_6 (HMa _) hp, ajP_10 (HMa _) hp, ajP_11 (HMa _) hp, ajP_6 (HMa _) hp, grP_10 (HMa _) hp, grP_11 (HMa _) hp, grP_5 (HMa _) hp, gtP (HMa _) hp, am48, isRf_ref, true_and, and_true, aPs_s, aPs_n, b01_0, b01_1, nI_clamp, ix_nI, inb_nI, lt_nI, eq_nI, nn_nI, eq0_nI, pk_mul, nI_add, lt_T, lt_F, if_true, if_false, true_and, and_true, neg1_nI, neg1_lt, neg1_neg, lt_neg1, eqN_F, eq_self,  rx_ra, hs, e1, hn, Nat.mul_comm s 4, rx_wa, u1, hb, u2, e2, nI_bit]
theorem c49 (H : KC h) (hp : q = 5 ∨ q = 17) {c : Nat → Nat} {T a s b : Nat} {G : Nat → Nat → Int32} (hs : s < 10) (hb : b < 12) : aM d 49 [.ref q, .int (nI s), .int (nI b)] (rx h q c T a G) Q = Q none (rx h q c T a (upA (upA G 9 s (nI b)) 5 b (nI s))) := by
  have HMa : ∀ G, KC (rx h q c T a G) := fun _ => H
  simp (disch := first | omega | assumption | exact gtP (HMa _) hp | (simp only [gT_pA, gT_pI, gT_pR]; first | assumption | exact gtP (HMa _) hp) | fail) only [s49_0, s49_1, s49_4, s49_5, s49_6, s49_7, s49_8, s49_11, s49_12, s49_13, s49_14, ajP_5 (HMa _) hp, ajP_9 (HMa _) hp, grP_4 (HMa _) hp, grP_9 (HMa _) hp, gtP (HMa _) hp, am49, isRf_ref, true_and, and_true, aPs_s, aPs_n, b01_0, b01_1, nI_clamp, ix_nI, inb_nI, lt_nI, eq_nI, nn_nI, eq0_nI, pk_mul, nI_add, lt_T, lt_F, if_true, if_false, true_and, and_true, neg1_nI, neg1_lt, neg1_neg, lt_neg1, eqN_F, eq_self,  rx_ra, hs, rx_wa, hb]
end C18
