/-! THE CLASS: LEAST PEAK -/
def uN (t : Option Nat) : Nat := match t with
  | none => 2147483647
  | some x => x
def uI (t : Option Nat) : Int32 := nI (uN t)
theorem u_lit : (2147483647 : Int32) = nI 2147483647 := by decide
theorem uN_lt {t : Option Nat} (ht : ∀ x, t = some x → x ≤ 666468) : uN t < 2 ^ 31 := by
  unfold uN
  cases t with
  | none => simp
  | some x => have := ht x rfl; simp only; omega
theorem uI_top {t : Option Nat} (ht : ∀ x, t = some x → x ≤ 666468) : (uI t = 2147483647) = (t.isSome = false) := by
  rw [u_lit]
  unfold uI
  rw [eq_nI (uN_lt ht) (by decide)]
  unfold uN
  cases t with
  | none => simp
  | some x => have := ht x rfl; simp; omega
theorem uN_pk {P : Nat → Nat → Int32} (V : okP P) {s D : Nat} {t : Option Nat} (hs : s < nS P) (ht : ∀ x, t = some x → x ≤ 666468) : (if zLo P s D < uN t then uN t else zLo P s D) = uN (pkB P s D t) := by
  have hz := zLo_le V (D := D) hs
  unfold uN pkB
  cases t with
  | none => simp only; rw [if_pos (by omega)]
  | some r => simp only; split <;> split <;> omega
theorem uN_mn {a n : Option Nat} (ha : ∀ x, a = some x → x ≤ 666468) (hn : ∀ x, n = some x → x ≤ 666468) : (if uN n < uN a then uN n else uN a) = uN (oMn a n) := by
  unfold uN oMn
  cases n with
  | none =>
    cases a with
    | none => rfl
    | some x => have := ha x rfl; simp only; rw [if_neg (by omega)]
  | some y =>
    have := hn y rfl
    cases a with
    | none => simp only; rw [if_pos (by omega)]
    | some x => simp only; split <;> rfl
/-! an ORDER is there just where LEAST PEAK is -/
theorem mT_step {P : Nat → Nat → Int32} {s D : Nat} (hD : D < 2 ^ nS P) (hs : s < nS P) (hr : mRdy P s D = true) (ht : (mT P (D ||| 2 ^ s)).isSome = true) : (mT P D).isSome = true := by
  rw [mT_eq hD]
  have key : ∀ n, s < n → (bsF P (mT P) D n).isSome = true := by
    intro n
    induction n with
    | zero => intro h; omega
    | succ n ih =>
      intro h
      rw [bsF]
      by_cases e : s = n
      · subst e
        unfold bsN
        rw [if_pos hr]
        cases hq : mT P (D ||| 2 ^ s) with
        | none => rw [hq] at ht; cases ht
        | some r =>
          unfold pkB oMn
          simp only
          cases bsF P (mT P) D s with
          | none => rfl
          | some m => simp only; split <;> split <;> rfl
      · have := ih (by omega)
        unfold oMn
        cases bsN P (mT P) n D with
        | none => exact this
        | some x =>
          simp only
          cases bsF P (mT P) D n with
          | none => rfl
          | some m => simp only; split <;> rfl
  exact key _ hs
theorem mT_full {P : Nat → Nat → Int32} : (mT P (2 ^ nS P - 1)).isSome = true := by
  have h0 := Nat.two_pow_pos (nS P)
  rw [mT_eq (by omega)]
  have key : ∀ n, (bsF P (mT P) (2 ^ nS P - 1) n).isSome = true := by
    intro n
    induction n with
    | zero => rw [bsF, if_pos rfl]; rfl
    | succ n ih =>
      rw [bsF]
      unfold oMn
      cases bsN P (mT P) n (2 ^ nS P - 1) with
      | none => exact ih
      | some x =>
        simp only
        cases bsF P (mT P) (2 ^ nS P - 1) n with
        | none => rfl
        | some m => simp only; split <;> rfl
  exact key _
theorem obt_full {P : Nat → Nat → Int32} {o : Nat → Nat} (O : ordV P o) : obt o (nS P) = 2 ^ nS P - 1 := by
  apply tb_ext
  intro j
  rw [tb_all]
  by_cases h : j < nS P
  · rw [decide_eq_true h]
    exact cntB_all (obt_cnt O (Nat.le_refl _)) j h
  · rw [decide_eq_false h]
    cases hq : tb (obt o (nS P)) j with
    | false => rfl
    | true =>
      obtain ⟨i, h1, h2⟩ := obt_tb.mp hq
      have := (O i h1).1
      omega
theorem ord_mT {P : Nat → Nat → Int32} {o : Nat → Nat} (O : ordV P o) : ∃ m, mT P 0 = some m := by
  have key : ∀ n k, k + n = nS P → (mT P (obt o k)).isSome = true := by
    intro n
    induction n with
    | zero =>
      intro k hk
      have hk : k = nS P := by omega
      rw [hk, obt_full O]
      exact mT_full
    | succ n ih =>
      intro k hk
      have h := ih (k + 1) (by omega)
      exact mT_step (obt_lt O (by omega)) (O k (by omega)).1 (O k (by omega)).2 h
  have h := key (nS P) 0 (by omega)
  rw [show obt o 0 = 0 from rfl] at h
  cases hq : mT P 0 with
  | none => rw [hq] at h; cases h
  | some m => exact ⟨m, rfl⟩
theorem mRy_mono {P : Nat → Nat → Int32} {s D E : Nat} (h : ∀ j, tb D j = true → tb E j = true) (hr : mRy P s D = true) : mRy P s E = true := by
  unfold mRy at hr ⊢
  rw [Option.isNone_iff_eq_none] at hr ⊢
  rw [fst1_none] at hr ⊢
  intro i h1 h2
  have := hr i h1 h2
  cases hw : mWr P (nRd P s i) with
  | none => rfl
  | some w =>
    rw [hw] at this
    simp only at this ⊢
    cases hq : tb D w with
    | false => rw [hq] at this; cases this
    | true => rw [h w hq]; rfl
theorem greedy_is {P : Nat → Nat → Int32} {o : Nat → Nat} (O : ordV P o) : ∀ {k : Nat}, k ≤ nS P → ∃ x, mOr P none k = some x := by
  intro k
  induction k with
  | zero => intro _; exact ⟨_, rfl⟩
  | succ k ih =>
    intro hk
    obtain ⟨⟨o', D⟩, hx⟩ := ih (by omega)
    obtain ⟨e1, e2⟩ := mOr_gr hx
    rw [mOr, hx]
    -- the first STEP of the other ORDER that isn't done
    have hD : D < 2 ^ nS P := by
      rw [e1]
      have key : ∀ j, j ≤ k → obt o' j < 2 ^ nS P := by
        intro j
        induction j with
        | zero => intro _; exact Nat.two_pow_pos _
        | succ j ihj => intro hj; rw [obt]; exact or_lt (ihj (by omega)) (e2 j (by omega)).1
      exact key k (Nat.le_refl _)
    have hc : cntB D (nS P) = k := by
      rw [e1]
      have key : ∀ j, j ≤ k → cntB (obt o' j) (nS P) = j := by
        intro j
        induction j with
        | zero => intro _; exact cntB_0
        | succ j ihj =>
          intro hj
          have := e2 j (by omega)
          rw [obt, cntB_or (rdy_bit this.2), ihj (by omega), if_pos this.1]
      exact key k (Nat.le_refl _)
    cases hf : fst1 (fun i => !tb D (o i)) (nS P) 0 with
    | none =>
      exfalso
      have hall := fst1_none.mp hf
      have : cntB D (nS P) = nS P := by
        have full : D = 2 ^ nS P - 1 := by
          apply tb_ext
          intro j
          rw [tb_all]
          by_cases hj : j < nS P
          · rw [decide_eq_true hj]
            obtain ⟨i, i1, i2⟩ := ord_onto O hj
            have := hall i (Nat.zero_le _) (by omega)
            rw [i2] at this
            cases hq : tb D j with
            | true => rfl
            | false => rw [hq] at this; cases this
          · rw [decide_eq_false hj]
            cases hq : tb D j with
            | false => rfl
            | true => exact absurd (tb_lt hD hq) hj
        rw [full]
        exact cntB_full (Nat.le_refl _)
      omega
    | some i =>
      obtain ⟨_, i1, i2, i3⟩ := fst1_lt hf
      have hi : i < nS P := by omega
      have hb : tb D (o i) = false := by
        cases hq : tb D (o i) with
        | false => rfl
        | true => rw [hq] at i2; cases i2
      have hry : mRy P (o i) D = true := by
        have h := (O i hi).2
        rw [mRdy_eq, Bool.and_eq_true] at h
        refine mRy_mono (fun j hj => ?_) h.2
        obtain ⟨q, q1, q2⟩ := obt_tb.mp hj
        have := i3 q (Nat.zero_le _) q1
        rw [q2] at this
        cases hq : tb D j with
        | true => rfl
        | false => rw [hq] at this; cases this
      have hrd : mRdy P (o i) D = true := by rw [mRdy_eq, hb, hry]; rfl
      have : (mNx P D).isSome = true := fst1_is (i := o i) (Nat.zero_le _) (by have := (O i hi).1; omega) hrd
      cases hn : mNx P D with
      | none => rw [hn] at this; cases this
      | some s =>
        refine ⟨(fun j => if j = k then s else o' j, D ||| 2 ^ s), ?_⟩
        simp only [hn]
/-- an ORDER by LEAST PEAK -/
theorem mT_ord {P : Nat → Nat → Int32} {m : Nat} (h : mT P 0 = some m) : ordV P (tld P m) := by
  have key : ∀ k, k ≤ nS P → obt (tld P m) k = grm P m k := by
    intro k
    induction k with
    | zero => intro _; rfl
    | succ k ih =>
      intro hk
      obtain ⟨s, _, _, s3, s4⟩ := grm_ex h (show k < nS P by omega)
      rw [obt, ih (by omega), s3, s4]
  intro k hk
  obtain ⟨s, s1, s2, s3, _⟩ := grm_ex h hk
  rw [key k (by omega), s3]
  obtain ⟨_, _, g, _⟩ := fst1_lt (show fst1 _ _ 0 = some s from s1)
  exact ⟨s2, (gdB_of g).1⟩
theorem oRD_mT {P : Nat → Nat → Int32} {tl : Option (Nat → Nat)} (T : tlV P tl) : (oRD P tl).isSome = (mT P 0).isSome := by
  cases hq : mT P 0 with
  | none =>
    cases ho : oRD P tl with
    | none => rfl
    | some o =>
      obtain ⟨m, e⟩ := ord_mT (oRD_V T ho)
      rw [hq] at e
      cases e
  | some m =>
    have O := mT_ord hq
    cases tl with
    | some f => rw [oRD_is]; rfl
    | none =>
      obtain ⟨x, hx⟩ := greedy_is O (Nat.le_refl _)
      unfold oRD
      rw [hx]
      rfl
def obF (P : Nat → Nat → Int32) (g : Nat → Int32) (D : Nat) : Nat → Int32 := fun E => if D ≤ E ∧ E < 2 ^ nS P then uI (mT P E) else g E
def obX (P : Nat → Nat → Int32) (h : abH) (D c : Nat) : abH := pI (pA h 40 (obF P (gI h 40) D)) 39 1 (nI c)
theorem obF_up {P : Nat → Nat → Int32} {g : Nat → Int32} {D : Nat} (hD : D < 2 ^ nS P) : upd (obF P g (D + 1)) D (uI (mT P D)) = obF P g D := by
  funext E
  by_cases e : E = D
  · subst e
    rw [upd_eq]
    unfold obF
    rw [if_pos (by omega)]
  · rw [upd_ne e]
    unfold obF
    by_cases h : D + 1 ≤ E ∧ E < 2 ^ nS P
    · rw [if_pos h, if_pos (by omega)]
    · rw [if_neg h, if_neg (by omega)]
section C12
variable {d p : Nat} {h : abH} {Q : Option Value → abH → Prop}
/-- what a heap shows of LEAST PEAK, from a set on -/
def LT (h : abH) (P : Nat → Nat → Int32) (D : Nat) : Prop := ∀ E, D ≤ E → E < 2 ^ nS P → gI h 40 E = uI (mT P E)
set_option maxHeartbeats 4000000 in
theorem c34 (H : KC h) (hp : p = 5 ∨ p = 17) {P : Nat → Nat → Int32} (W : okW P) (L : LH h p P) {s D : Nat} (hs : s < nS P) (hD : D < 2 ^ nS P) (hr : mRdy P s D = true) (T : LT h P (D + 1)) : aM (d + 3) 34 [.ref 39, .ref 30, .int (nI D), .int (nI s), .int (nI (zHd P D 12))] h Q = Q (some (.int (uI (pkB P s D (mT P (D ||| 2 ^ s)))))) h := by
  have V := W.1
  have s10 := V.s.1
  have hpw : 2 ^ nS P ≤ 1024 := Nat.pow_le_pow_right (by decide) s10 (n := 2)
  have hz := zHd_le V (D := D) (Nat.le_refl 12)
  have hb := rdy_bit hr
  have hE := or_lt hD hs
  have hg := or_gt hb
  have eT := T (D ||| 2 ^ s) (by omega) hE
  have hl : ∀ x, mT P (D ||| 2 ^ s) = some x → x ≤ 666468 := fun x hx => mT_le V hx
  have hzl := zLo_le V (D := D) hs
  have c30' : ∀ Q', aM (d + 2) 30 [.ref 30, .int (nI D), .int (nI s), .int (nI (zHd P D 12))] h Q' = Q' (some (.int (nI (zLo P s D)))) h := fun Q' => by rw [c30 H hp V L hs (by omega) (by omega), ← zLo_cl W hs hb]
  have em := iMax_nI (a := zLo P s D) (b := uN (mT P (D ||| 2 ^ s))) (by omega) (uN_lt hl)
  rw [uN_pk V hs hl] at em
  have h1024 : D ||| 2 ^ s < 1024 := by omega
  unfold uI at eT ⊢
  simp (disch := first | omega | assumption | exact gt_30 H | exact gt_39 H | (simp only [gT_pA, gT_pI, gT_pR]; first | assumption | exact gt_30 H | exact gt_39 H) | fail) only [s34_0, s34_1, s34_2, s34_3, s34_5, s34_8, s34_9, s34_12, s34_13, s34_14, s34_15, s34_16, s34_17, s34_18, s34_21, ai_40 H, gr_39_2 H, gt_30 H, gt_39 H, am34, isRf_ref, true_and, and_true, aPs_s, aPs_n, b01_0, b01_1, nI_clamp, ix_nI, inb_nI, lt_nI, eq_nI, nn_nI, eq0_nI, pk_mul, nI_add, lt_T, lt_F, if_true, if_false, true_and, and_true, neg1_nI, neg1_lt, neg1_neg, lt_neg1, eqN_F, eq_self,  c30', nI_bit, h1024, eT, em]
set_option maxHeartbeats 4000000 in
theorem c33 (H : KC h) (hp : p = 5 ∨ p = 17) {P : Nat → Nat → Int32} (W : okW P) (L : LH h p P) {D : Nat} (hD : D < 2 ^ nS P) (hf : D ≠ 2 ^ nS P - 1) (T : LT h P (D + 1)) : aM (d + 4) 33 [.ref 39, .ref 30, .int (nI D)] h Q = Q (some (.int (uI (mT P D)))) h := by
  have V := W.1
  have C := L.1
  have r30 := L.2.2
  have s10 := V.s.1
  have e4 := C.s
  have hpw : 2 ^ nS P ≤ 1024 := Nat.pow_le_pow_right (by decide) s10 (n := 2)
  have c29' : ∀ Q', aM (d + 3) 29 [.ref 30, .int (nI D)] h Q' = Q' (some (.int (nI (zHd P D 12)))) h := fun Q' => c29 H hp V L (by omega)
  have hl : ∀ n, n ≤ nS P → ∀ x, bsF P (mT P) D n = some x → x ≤ 666468 := fun n hn x hx => bsF_le V hn (fun s r _ _ hr => mT_le V hr) hx
  rw [mT_eq hD]
  have loop := for_0 (F := fun s => aW (d + 4) 33 13 [.ref 39, .ref 30, .int (nI D), .int (uI (bsF P (mT P) D s)), .int (nI (zHd P D 12)), .int (nI s)] [] h Q) (R := Q (some (.int (uI (bsF P (mT P) D (nS P))))) h) (nS P) (by
    rw [s33_13]
    simp (disch := first | omega | assumption | exact gtP H hp | exact gt_30 H | exact gt_39 H | (simp only [gT_pA, gT_pI, gT_pR]; first | assumption | exact gtP H hp | exact gt_30 H | exact gt_39 H) | fail) only [s33_0, s33_2, s33_3, s33_4, s33_5, s33_8, s33_10, s33_11, s33_15, s33_16, s33_19, s33_22, s33_25, s33_26, s33_28, s33_29, s33_30, s33_31, s33_34, s33_35, s33_38, s33_40, s33_41, s33_44, s33_47, s33_48, s33_49, s33_50, s33_51, s33_53, s33_55, s33_58, s33_61, s33_62, s33_65, s33_68, s33_69, gtP H hp, gt_30 H, gt_39 H, am33, isRf_ref, true_and, and_true, aPs_s, aPs_n, b01_0, b01_1, nI_clamp, ix_nI, inb_nI, lt_nI, eq_nI, nn_nI, eq0_nI, pk_mul, nI_add, lt_T, lt_F, if_true, if_false, true_and, and_true, neg1_nI, neg1_lt, neg1_neg, lt_neg1, eqN_F, eq_self,  r30, e4, Nat.lt_irrefl]) (fun s hs => by
    have c54' : ∀ Q', aM (d + 3) 54 [.ref p, .int (nI s), .int (nI D)] h Q' = Q' (some (.int (zB (mRy P s D)))) h := fun Q' => c54 H hp C V hs (by omega)
    rw [s33_13, bsF]
    unfold bsN
    rcases Bool.eq_false_or_eq_true (tb D s) with g1 | g1
    · have g0 : mRdy P s D = false := by rw [mRdy_eq, g1]; rfl
      rw [g0, if_neg (by decide)]
      simp (disch := first | omega | assumption | exact gtP H hp | exact gt_30 H | exact gt_39 H | (simp only [gT_pA, gT_pI, gT_pR]; first | assumption | exact gtP H hp | exact gt_30 H | exact gt_39 H) | fail) only [s33_0, s33_2, s33_3, s33_4, s33_5, s33_8, s33_10, s33_11, s33_15, s33_16, s33_19, s33_22, s33_25, s33_26, s33_28, s33_29, s33_30, s33_31, s33_34, s33_35, s33_38, s33_40, s33_41, s33_44, s33_47, s33_48, s33_49, s33_50, s33_51, s33_53, s33_55, s33_58, s33_61, s33_62, s33_65, s33_68, s33_69, gtP H hp, gt_30 H, gt_39 H, am33, isRf_ref, true_and, and_true, aPs_s, aPs_n, b01_0, b01_1, nI_clamp, ix_nI, inb_nI, lt_nI, eq_nI, nn_nI, eq0_nI, pk_mul, nI_add, lt_T, lt_F, if_true, if_false, true_and, and_true, neg1_nI, neg1_lt, neg1_neg, lt_neg1, eqN_F, eq_self,  r30, e4, hs, bit_0, g1, Bool.not_false, Bool.not_true, Bool.true_and, Bool.false_and, Bool.and_true, Bool.and_false, Bool.or_true, Bool.or_false, Bool.true_or, Bool.false_or, Bool.true_eq_false, Bool.false_eq_true, if_true, if_false, Option.isSome_some, Option.isSome_none, Option.isNone_some, Option.isNone_none, zB_t, zB_f, nI1_0, nI0_0, oMn]
    · rcases Bool.eq_false_or_eq_true (mRy P s D) with g2 | g2
      · have g0 : mRdy P s D = true := by rw [mRdy_eq, g1, g2]; rfl
        have c34' : ∀ Q', aM (d + 3) 34 [.ref 39, .ref 30, .int (nI D), .int (nI s), .int (nI (zHd P D 12))] h Q' = Q' (some (.int (uI (pkB P s D (mT P (D ||| 2 ^ s)))))) h := fun Q' => c34 H hp W L hs hD g0 T
        have hn : ∀ x, pkB P s D (mT P (D ||| 2 ^ s)) = some x → x ≤ 666468 := fun x hx => pkB_le V hs (fun r hr => mT_le V hr) hx
        have em := iMin_nI (a := uN (bsF P (mT P) D s)) (b := uN (pkB P s D (mT P (D ||| 2 ^ s)))) (uN_lt (hl s (by omega))) (uN_lt hn)
        rw [uN_mn (hl s (by omega)) hn] at em
        have em : iMin (uI (bsF P (mT P) D s)) (uI (pkB P s D (mT P (D ||| 2 ^ s)))) = uI (oMn (bsF P (mT P) D s) (pkB P s D (mT P (D ||| 2 ^ s)))) := em
        rw [g0, if_pos rfl]
        simp (disch := first | omega | assumption | exact gtP H hp | exact gt_30 H | exact gt_39 H | (simp only [gT_pA, gT_pI, gT_pR]; first | assumption | exact gtP H hp | exact gt_30 H | exact gt_39 H) | fail) only [s33_0, s33_2, s33_3, s33_4, s33_5, s33_8, s33_10, s33_11, s33_15, s33_16, s33_19, s33_22, s33_25, s33_26, s33_28, s33_29, s33_30, s33_31, s33_34, s33_35, s33_38, s33_40, s33_41, s33_44, s33_47, s33_48, s33_49, s33_50, s33_51, s33_53, s33_55, s33_58, s33_61, s33_62, s33_65, s33_68, s33_69, gtP H hp, gt_30 H, gt_39 H, am33, isRf_ref, true_and, and_true, aPs_s, aPs_n, b01_0, b01_1, nI_clamp, ix_nI, inb_nI, lt_nI, eq_nI, nn_nI, eq0_nI, pk_mul, nI_add, lt_T, lt_F, if_true, if_false, true_and, and_true, neg1_nI, neg1_lt, neg1_neg, lt_neg1, eqN_F, eq_self,  r30, e4, hs, bit_0, g1, Bool.not_false, Bool.not_true, Bool.true_and, Bool.false_and, Bool.and_true, Bool.and_false, Bool.or_true, Bool.or_false, Bool.true_or, Bool.false_or, Bool.true_eq_false, Bool.false_eq_true, if_true, if_false, Option.isSome_some, Option.isSome_none, Option.isNone_some, Option.isNone_none, zB_t, zB_f, nI1_0, nI0_0, c54', g2, c34', em]
      · have g0 : mRdy P s D = false := by rw [mRdy_eq, g1, g2]; rfl
        rw [g0, if_neg (by decide)]
        simp (disch := first | omega | assumption | exact gtP H hp | exact gt_30 H | exact gt_39 H | (simp only [gT_pA, gT_pI, gT_pR]; first | assumption | exact gtP H hp | exact gt_30 H | exact gt_39 H) | fail) only [s33_0, s33_2, s33_3, s33_4, s33_5, s33_8, s33_10, s33_11, s33_15, s33_16, s33_19, s33_22, s33_25, s33_26, s33_28, s33_29, s33_30, s33_31, s33_34, s33_35, s33_38, s33_40, s33_41, s33_44, s33_47, s33_48, s33_49, s33_50, s33_51, s33_53, s33_55, s33_58, s33_61, s33_62, s33_65, s33_68, s33_69, gtP H hp, gt_30 H, gt_39 H, am33, isRf_ref, true_and, and_true, aPs_s, aPs_n, b01_0, b01_1, nI_clamp, ix_nI, inb_nI, lt_nI, eq_nI, nn_nI, eq0_nI, pk_mul, nI_add, lt_T, lt_F, if_true, if_false, true_and, and_true, neg1_nI, neg1_lt, neg1_neg, lt_neg1, eqN_F, eq_self,  r30, e4, hs, bit_0, g1, Bool.not_false, Bool.not_true, Bool.true_and, Bool.false_and, Bool.and_true, Bool.and_false, Bool.or_true, Bool.or_false, Bool.true_or, Bool.false_or, Bool.true_eq_false, Bool.false_eq_true, if_true, if_false, Option.isSome_some, Option.isSome_none, Option.isNone_some, Option.isNone_none, zB_t, zB_f, nI1_0, nI0_0, c54', g2, oMn])
  have e0 : bsF P (mT P) D 0 = none := by rw [bsF, if_neg hf]
  rw [e0] at loop
  have e1 : uI none = 2147483647 := by decide
  rw [e1] at loop
  simp (disch := first | omega | assumption | exact gtP H hp | exact gt_30 H | exact gt_39 H | (simp only [gT_pA, gT_pI, gT_pR]; first | assumption | exact gtP H hp | exact gt_30 H | exact gt_39 H) | fail) only [s33_0, s33_2, s33_3, s33_4, s33_5, s33_8, s33_10, s33_11, s33_15, s33_16, s33_19, s33_22, s33_25, s33_26, s33_28, s33_29, s33_30, s33_31, s33_34, s33_35, s33_38, s33_40, s33_41, s33_44, s33_47, s33_48, s33_49, s33_50, s33_51, s33_53, s33_55, s33_58, s33_61, s33_62, s33_65, s33_68, s33_69, gtP H hp, gt_30 H, gt_39 H, am33, isRf_ref, true_and, and_true, aPs_s, aPs_n, b01_0, b01_1, nI_clamp, ix_nI, inb_nI, lt_nI, eq_nI, nn_nI, eq0_nI, pk_mul, nI_add, lt_T, lt_F, if_true, if_false, true_and, and_true, neg1_nI, neg1_lt, neg1_neg, lt_neg1, eqN_F, eq_self,  c29']
  exact loop
set_option maxHeartbeats 4000000 in
theorem c36 (H : KC h) (hp : p = 5 ∨ p = 17) {P : Nat → Nat → Int32} (W : okW P) (L : LH h p P) {D m : Nat} (hm : mT P 0 = some m) (hD : D < 2 ^ nS P) (T : LT h P 0) : aM (d + 4) 36 [.ref 39, .ref 30, .int (nI D)] h Q = Q (some (.int (oI (mGs P m D)))) h := by
  have V := W.1
  have C := L.1
  have r30 := L.2.2
  have s10 := V.s.1
  have e4 := C.s
  have hpw : 2 ^ nS P ≤ 1024 := Nat.pow_le_pow_right (by decide) s10 (n := 2)
  have hml := mT_le V hm
  have e40 : gI h 40 0 = nI m := by rw [T 0 (Nat.le_refl _) (Nat.two_pow_pos _), hm]; rfl
  have c29' : ∀ Q', aM (d + 3) 29 [.ref 30, .int (nI D)] h Q' = Q' (some (.int (nI (zHd P D 12)))) h := fun Q' => c29 H hp V L (by omega)
  unfold mGs
  have loop := for_dn (F := fun s => aW (d + 4) 36 9 [.ref 39, .ref 30, .int (nI D), .int (nI (zHd P D 12)), .int (nI s)] [] h Q) (R := fun s => Q (some (.int (oI (fst1 (gdB P m D) (nS P - s) s)))) h) (nS P) (by
    rw [s36_9, fst1_end]
    simp (disch := first | omega | assumption | exact gtP H hp | exact gt_30 H | exact gt_39 H | (simp only [gT_pA, gT_pI, gT_pR]; first | assumption | exact gtP H hp | exact gt_30 H | exact gt_39 H) | fail) only [s36_0, s36_1, s36_2, s36_5, s36_6, s36_7, s36_11, s36_12, s36_15, s36_18, s36_21, s36_22, s36_24, s36_25, s36_26, s36_27, s36_30, s36_31, s36_34, s36_36, s36_37, s36_40, s36_43, s36_44, s36_45, s36_46, s36_48, s36_49, s36_52, s36_53, s36_56, s36_57, s36_58, s36_61, s36_63, s36_64, s36_67, s36_70, s36_71, ai_40 H, gr_39_2 H, gtP H hp, gt_30 H, gt_39 H, am36, isRf_ref, true_and, and_true, aPs_s, aPs_n, b01_0, b01_1, nI_clamp, ix_nI, inb_nI, lt_nI, eq_nI, nn_nI, eq0_nI, pk_mul, nI_add, lt_T, lt_F, if_true, if_false, true_and, and_true, neg1_nI, neg1_lt, neg1_neg, lt_neg1, eqN_F, eq_self,  r30, e4, Nat.lt_irrefl, oI_n]) (fun s hs ih => by
    have c54' : ∀ Q', aM (d + 3) 54 [.ref p, .int (nI s), .int (nI D)] h Q' = Q' (some (.int (zB (mRy P s D)))) h := fun Q' => c54 H hp C V hs (by omega)
    rw [s36_9, fst1_step hs]
    rcases Bool.eq_false_or_eq_true (tb D s) with g1 | g1
    · have g0 : gdB P m D s = false := by unfold gdB; rw [mRdy_eq, g1]; rfl
      simp (disch := first | omega | assumption | exact gtP H hp | exact gt_30 H | exact gt_39 H | (simp only [gT_pA, gT_pI, gT_pR]; first | assumption | exact gtP H hp | exact gt_30 H | exact gt_39 H) | fail) only [s36_0, s36_1, s36_2, s36_5, s36_6, s36_7, s36_11, s36_12, s36_15, s36_18, s36_21, s36_22, s36_24, s36_25, s36_26, s36_27, s36_30, s36_31, s36_34, s36_36, s36_37, s36_40, s36_43, s36_44, s36_45, s36_46, s36_48, s36_49, s36_52, s36_53, s36_56, s36_57, s36_58, s36_61, s36_63, s36_64, s36_67, s36_70, s36_71, ai_40 H, gr_39_2 H, gtP H hp, gt_30 H, gt_39 H, am36, isRf_ref, true_and, and_true, aPs_s, aPs_n, b01_0, b01_1, nI_clamp, ix_nI, inb_nI, lt_nI, eq_nI, nn_nI, eq0_nI, pk_mul, nI_add, lt_T, lt_F, if_true, if_false, true_and, and_true, neg1_nI, neg1_lt, neg1_neg, lt_neg1, eqN_F, eq_self,  r30, e4, hs, bit_0, g1, g0, Bool.not_false, Bool.not_true, Bool.true_and, Bool.false_and, Bool.and_true, Bool.and_false, Bool.or_true, Bool.or_false, Bool.true_or, Bool.false_or, Bool.true_eq_false, Bool.false_eq_true, if_true, if_false, Option.isSome_some, Option.isSome_none, Option.isNone_some, Option.isNone_none, zB_t, zB_f, nI1_0, nI0_0, ih]
    · rcases Bool.eq_false_or_eq_true (mRy P s D) with g2 | g2
      · have gr : mRdy P s D = true := by rw [mRdy_eq, g1, g2]; rfl
        have c34' : ∀ Q', aM (d + 3) 34 [.ref 39, .ref 30, .int (nI D), .int (nI s), .int (nI (zHd P D 12))] h Q' = Q' (some (.int (uI (pkB P s D (mT P (D ||| 2 ^ s)))))) h := fun Q' => c34 H hp W L hs hD gr (fun E h1 h2 => T E (by omega) h2)
        have hn : ∀ x, pkB P s D (mT P (D ||| 2 ^ s)) = some x → x ≤ 666468 := fun x hx => pkB_le V hs (fun r hr => mT_le V hr) hx
        have hlt := lt_nI (a := m) (b := uN (pkB P s D (mT P (D ||| 2 ^ s)))) (by omega) (uN_lt hn)
        have g0 : gdB P m D s = decide (¬ m < uN (pkB P s D (mT P (D ||| 2 ^ s)))) := by
          unfold gdB
          rw [gr, Bool.true_and]
          cases hq : pkB P s D (mT P (D ||| 2 ^ s)) with
          | none => exact (decide_eq_false (by unfold uN; simp only; omega)).symm
          | some x =>
            unfold uN
            exact decide_eq_decide.mpr (by simp only; omega)
        unfold uI at c34'
        by_cases h5 : m < uN (pkB P s D (mT P (D ||| 2 ^ s)))
        · have g9 : gdB P m D s = false := by rw [g0]; exact decide_eq_false (by simpa using h5)
          simp (disch := first | omega | assumption | exact gtP H hp | exact gt_30 H | exact gt_39 H | (simp only [gT_pA, gT_pI, gT_pR]; first | assumption | exact gtP H hp | exact gt_30 H | exact gt_39 H) | fail) only [s36_0, s36_1, s36_2, s36_5, s36_6, s36_7, s36_11, s36_12, s36_15, s36_18, s36_21, s36_22, s36_24, s36_25, s36_26, s36_27, s36_30, s36_31, s36_34, s36_36, s36_37, s36_40, s36_43, s36_44, s36_45, s36_46, s36_48, s36_49, s36_52, s36_53, s36_56, s36_57, s36_58, s36_61, s36_63, s36_64, s36_67, s36_70, s36_71, ai_40 H, gr_39_2 H, gtP H hp, gt_30 H, gt_39 H, am36, isRf_ref, true_and, and_true, aPs_s, aPs_n, b01_0, b01_1, nI_clamp, ix_nI, inb_nI, lt_nI, eq_nI, nn_nI, eq0_nI, pk_mul, nI_add, lt_T, lt_F, if_true, if_false, true_and, and_true, neg1_nI, neg1_lt, neg1_neg, lt_neg1, eqN_F, eq_self,  r30, e4, hs, bit_0, g1, Bool.not_false, Bool.not_true, Bool.true_and, Bool.false_and, Bool.and_true, Bool.and_false, Bool.or_true, Bool.or_false, Bool.true_or, Bool.false_or, Bool.true_eq_false, Bool.false_eq_true, if_true, if_false, Option.isSome_some, Option.isSome_none, Option.isNone_some, Option.isNone_none, zB_t, zB_f, nI1_0, nI0_0, c54', g2, c34', e40, hlt, h5, g9, ih]
        · have g9 : gdB P m D s = true := by rw [g0]; exact decide_eq_true h5
          simp (disch := first | omega | assumption | exact gtP H hp | exact gt_30 H | exact gt_39 H | (simp only [gT_pA, gT_pI, gT_pR]; first | assumption | exact gtP H hp | exact gt_30 H | exact gt_39 H) | fail) only [s36_0, s36_1, s36_2, s36_5, s36_6, s36_7, s36_11, s36_12, s36_15, s36_18, s36_21, s36_22, s36_24, s36_25, s36_26, s36_27, s36_30, s36_31, s36_34, s36_36, s36_37, s36_40, s36_43, s36_44, s36_45, s36_46, s36_48, s36_49, s36_52, s36_53, s36_56, s36_57, s36_58, s36_61, s36_63, s36_64, s36_67, s36_70, s36_71, ai_40 H, gr_39_2 H, gtP H hp, gt_30 H, gt_39 H, am36, isRf_ref, true_and, and_true, aPs_s, aPs_n, b01_0, b01_1, nI_clamp, ix_nI, inb_nI, lt_nI, eq_nI, nn_nI, eq0_nI, pk_mul, nI_add, lt_T, lt_F, if_true, if_false, true_and, and_true, neg1_nI, neg1_lt, neg1_neg, lt_neg1, eqN_F, eq_self,  r30, e4, hs, bit_0, g1, Bool.not_false, Bool.not_true, Bool.true_and, Bool.false_and, Bool.and_true, Bool.and_false, Bool.or_true, Bool.or_false, Bool.true_or, Bool.false_or, Bool.true_eq_false, Bool.false_eq_true, if_true, if_false, Option.isSome_some, Option.isSome_none, Option.isNone_some, Option.isNone_none, zB_t, zB_f, nI1_0, nI0_0, c54', g2, c34', e40, hlt, h5, g9, oI_s]
      · have g0 : gdB P m D s = false := by unfold gdB; rw [mRdy_eq, g1, g2]; rfl
        simp (disch := first | omega | assumption | exact gtP H hp | exact gt_30 H | exact gt_39 H | (simp only [gT_pA, gT_pI, gT_pR]; first | assumption | exact gtP H hp | exact gt_30 H | exact gt_39 H) | fail) only [s36_0, s36_1, s36_2, s36_5, s36_6, s36_7, s36_11, s36_12, s36_15, s36_18, s36_21, s36_22, s36_24, s36_25, s36_26, s36_27, s36_30, s36_31, s36_34, s36_36, s36_37, s36_40, s36_43, s36_44, s36_45, s36_46, s36_48, s36_49, s36_52, s36_53, s36_56, s36_57, s36_58, s36_61, s36_63, s36_64, s36_67, s36_70, s36_71, ai_40 H, gr_39_2 H, gtP H hp, gt_30 H, gt_39 H, am36, isRf_ref, true_and, and_true, aPs_s, aPs_n, b01_0, b01_1, nI_clamp, ix_nI, inb_nI, lt_nI, eq_nI, nn_nI, eq0_nI, pk_mul, nI_add, lt_T, lt_F, if_true, if_false, true_and, and_true, neg1_nI, neg1_lt, neg1_neg, lt_neg1, eqN_F, eq_self,  r30, e4, hs, bit_0, g1, Bool.not_false, Bool.not_true, Bool.true_and, Bool.false_and, Bool.and_true, Bool.and_false, Bool.or_true, Bool.or_false, Bool.true_or, Bool.false_or, Bool.true_eq_false, Bool.false_eq_true, if_true, if_false, Option.isSome_some, Option.isSome_none, Option.isNone_some, Option.isNone_none, zB_t, zB_f, nI1_0, nI0_0, c54', g2, g0, ih])
  simp (disch := first | omega | assumption | exact gtP H hp | exact gt_30 H | exact gt_39 H | (simp only [gT_pA, gT_pI, gT_pR]; first | assumption | exact gtP H hp | exact gt_30 H | exact gt_39 H) | fail) only [s36_0, s36_1, s36_2, s36_5, s36_6, s36_7, s36_11, s36_12, s36_15, s36_18, s36_21, s36_22, s36_24, s36_25, s36_26, s36_27, s36_30, s36_31, s36_34, s36_36, s36_37, s36_40, s36_43, s36_44, s36_45, s36_46, s36_48, s36_49, s36_52, s36_53, s36_56, s36_57, s36_58, s36_61, s36_63, s36_64, s36_67, s36_70, s36_71, ai_40 H, gr_39_2 H, gtP H hp, gt_30 H, gt_39 H, am36, isRf_ref, true_and, and_true, aPs_s, aPs_n, b01_0, b01_1, nI_clamp, ix_nI, inb_nI, lt_nI, eq_nI, nn_nI, eq0_nI, pk_mul, nI_add, lt_T, lt_F, if_true, if_false, true_and, and_true, neg1_nI, neg1_lt, neg1_neg, lt_neg1, eqN_F, eq_self,  c29']
  exact loop 0 (Nat.zero_le _)
def frX (h : abH) (P : Nat → Nat → Int32) (m k : Nat) : abH := pA h 41 (pre (fun k => nI (tld P m k)) k (gI h 41))
set_option maxHeartbeats 4000000 in
theorem c35 (H : KC h) (hp : p = 5 ∨ p = 17) {P : Nat → Nat → Int32} (W : okW P) (L : LH h p P) {m : Nat} (hm : mT P 0 = some m) (T : LT h P 0) : aM (d + 5) 35 [.ref 39, .ref 30] h Q = Q none (frX h P m (nS P)) := by
  have V := W.1
  have s10 := V.s.1
  have HMa : ∀ k, KC (frX h P m k) := fun _ => H
  have loop := for_ds (σ := Value) (F := fun k x => aW (d + 5) 35 4 [.ref 39, .ref 30, .int (nI (grm P m k)), .int (nI k), x] [] (frX h P m k) Q) (R := fun _ => Q none (frX h P m (nS P))) (nS P) (fun x => by
    have LX : LH (frX h P m (nS P)) p P := ⟨CPg_of (fun q j h1 h2 => by unfold frX; rw [gI_ne (by omega)]) L.1, L.2.1, L.2.2⟩
    have e4 := LX.1.s
    have r30 := LX.2.2
    rw [s35_4]
    simp (disch := first | omega | assumption | exact gtP (HMa _) hp | exact gt_30 (HMa _) | exact gt_39 (HMa _) | (simp only [gT_pA, gT_pI, gT_pR]; first | assumption | exact gtP (HMa _) hp | exact gt_30 (HMa _) | exact gt_39 (HMa _)) | fail) only [s35_0, s35_1, s35_2, s35_3, s35_5, s35_6, s35_9, s35_12, s35_15, s35_16, s35_17, s35_18, s35_21, s35_23, s35_25, s35_28, s35_29, s35_30, s35_33, s35_34, s35_36, s35_37, s35_38, s35_39, s35_41, s35_42, s35_43, s35_44, s35_47, s35_50, aj_41 (HMa _), gr_39_3 (HMa _), gtP (HMa _) hp, gt_30 (HMa _), gt_39 (HMa _), am35, isRf_ref, true_and, and_true, aPs_s, aPs_n, b01_0, b01_1, nI_clamp, ix_nI, inb_nI, lt_nI, eq_nI, nn_nI, eq0_nI, pk_mul, nI_add, lt_T, lt_F, if_true, if_false, true_and, and_true, neg1_nI, neg1_lt, neg1_neg, lt_neg1, eqN_F, eq_self,  r30, e4, Nat.lt_irrefl]) (fun k hk ih x => by
    have LX : LH (frX h P m k) p P := ⟨CPg_of (fun q j h1 h2 => by unfold frX; rw [gI_ne (by omega)]) L.1, L.2.1, L.2.2⟩
    have e4 := LX.1.s
    have r30 := LX.2.2
    have TX : LT (frX h P m k) P 0 := T
    have hg := grm_ok hm (show k ≤ nS P by omega)
    obtain ⟨s, s1, s2, s3, s4⟩ := grm_ex hm hk
    have s10' : s < 10 := by omega
    have k10 : k < 10 := by omega
    have c36' : ∀ Q', aM (d + 4) 36 [.ref 39, .ref 30, .int (nI (grm P m k))] (frX h P m k) Q' = Q' (some (.int (nI s))) (frX h P m k) := fun Q' => by rw [c36 (HMa k) hp W LX hm hg.1 TX, s1]; rfl
    have up := pre_pI (h := h) (o := 41) (X := fun k => nI (tld P m k)) (k := k) (G := gI h 41) (x := nI s) (by rw [s3])
    have up : pI (frX h P m k) 41 k (nI s) = frX h P m (k + 1) := up
    have ih2 := ih (.int (nI s))
    rw [s4] at ih2
    rw [s35_4]
    simp (disch := first | omega | assumption | exact gtP (HMa _) hp | exact gt_30 (HMa _) | exact gt_39 (HMa _) | (simp only [gT_pA, gT_pI, gT_pR]; first | assumption | exact gtP (HMa _) hp | exact gt_30 (HMa _) | exact gt_39 (HMa _)) | fail) only [s35_0, s35_1, s35_2, s35_3, s35_5, s35_6, s35_9, s35_12, s35_15, s35_16, s35_17, s35_18, s35_21, s35_23, s35_25, s35_28, s35_29, s35_30, s35_33, s35_34, s35_36, s35_37, s35_38, s35_39, s35_41, s35_42, s35_43, s35_44, s35_47, s35_50, aj_41 (HMa _), gr_39_3 (HMa _), gtP (HMa _) hp, gt_30 (HMa _), gt_39 (HMa _), am35, isRf_ref, true_and, and_true, aPs_s, aPs_n, b01_0, b01_1, nI_clamp, ix_nI, inb_nI, lt_nI, eq_nI, nn_nI, eq0_nI, pk_mul, nI_add, lt_T, lt_F, if_true, if_false, true_and, and_true, neg1_nI, neg1_lt, neg1_neg, lt_neg1, eqN_F, eq_self,  r30, e4, hk, c36', nn_nI, k10, up, nI_bit]
    exact ih2)
  have e0 : frX h P m 0 = h := by unfold frX; rw [pre_0, pA_self]
  have l0 := loop 0 (Nat.zero_le _) (.retAddr 0)
  rw [e0] at l0
  simp (disch := first | omega | assumption | exact gtP H hp | exact gt_30 H | exact gt_39 H | (simp only [gT_pA, gT_pI, gT_pR]; first | assumption | exact gtP H hp | exact gt_30 H | exact gt_39 H) | fail) only [s35_0, s35_1, s35_2, s35_3, s35_5, s35_6, s35_9, s35_12, s35_15, s35_16, s35_17, s35_18, s35_21, s35_23, s35_25, s35_28, s35_29, s35_30, s35_33, s35_34, s35_36, s35_37, s35_38, s35_39, s35_41, s35_42, s35_43, s35_44, s35_47, s35_50, aj_41 H, gr_39_3 H, gtP H hp, gt_30 H, gt_39 H, am35, isRf_ref, true_and, and_true, aPs_s, aPs_n, b01_0, b01_1, nI_clamp, ix_nI, inb_nI, lt_nI, eq_nI, nn_nI, eq0_nI, pk_mul, nI_add, lt_T, lt_F, if_true, if_false, true_and, and_true, neg1_nI, neg1_lt, neg1_neg, lt_neg1, eqN_F, eq_self, ]
  exact l0
def lpX (h : abH) (P : Nat → Nat → Int32) (m : Nat) : abH := pI (frX (obX P h 0 (hcN P (2 ^ nS P))) P m (nS P)) 39 0 (nI 1)
theorem obX_1 {P : Nat → Nat → Int32} {D c : Nat} : gI (obX P h D c) 39 1 = nI c := by unfold obX; rw [pI_def, gI_eq, upd_eq]
theorem obX_40 {P : Nat → Nat → Int32} {D c : Nat} : gI (obX P h D c) 40 = obF P (gI h 40) D := by unfold obX; rw [pI_def, gI_ne (by decide), gI_eq]
theorem obX_o {P : Nat → Nat → Int32} {D c o : Nat} (h1 : o ≠ 39) (h2 : o ≠ 40) : gI (obX P h D c) o = gI h o := by unfold obX; rw [pI_def, gI_ne h1, gI_ne h2]
theorem obX_w {P : Nat → Nat → Int32} {D c : Nat} {x : Int32} (hD : D < 2 ^ nS P) (hx : x = uI (mT P D)) : pI (obX P h (D + 1) c) 40 D x = obX P h D c := by
  subst hx
  unfold obX
  simp only [pI_def, gI_eq, gI_ne (show (39 : Nat) ≠ 40 by decide), gI_ne (show (40 : Nat) ≠ 39 by decide), pA_comm (show (39 : Nat) ≠ 40 by decide), pA_pA, obF_up hD]
theorem obX_c {P : Nat → Nat → Int32} {D c c' : Nat} : pI (obX P h D c) 39 1 (nI c') = obX P h D c' := pI_pI
theorem obX_T {P : Nat → Nat → Int32} {D c : Nat} : LT (obX P h D c) P D := fun E h1 h2 => by rw [obX_40]; exact if_pos ⟨h1, h2⟩
set_option maxHeartbeats 8000000 in
theorem c32_27 (H : KC h) (hp : p = 5 ∨ p = 17) {P : Nat → Nat → Int32} (W : okW P) (L : LH h p P) {R : Prop} (hR : ∀ x, aW (d + 5) 32 79 [.ref 39, .ref 30, .int (nI (2 ^ nS P - 1)), x] [] (obX P h 0 (hcN P (2 ^ nS P))) Q = R) : ∀ {j : Nat}, j ≤ 2 ^ nS P → aW (d + 5) 32 27 [.ref 39, .ref 30, .int (nI (2 ^ nS P - 1)), .int (ivD j)] [] (obX P h j (hcN P (2 ^ nS P - j))) Q = R := by
  have V := W.1
  have s10 := V.s.1
  have hpw : 2 ^ nS P ≤ 1024 := Nat.pow_le_pow_right (by decide) s10 (n := 2)
  have HMa : ∀ D c, KC (obX P h D c) := fun _ _ => H
  intro j
  induction j with
  | zero =>
    intro _
    rw [s32_27, Nat.sub_zero]
    simp (disch := first | omega | assumption | exact gtP (HMa _ _) hp | exact gt_30 (HMa _ _) | exact gt_39 (HMa _ _) | (simp only [gT_pA, gT_pI, gT_pR]; first | assumption | exact gtP (HMa _ _) hp | exact gt_30 (HMa _ _) | exact gt_39 (HMa _ _)) | fail) only [s32_0, s32_1, s32_4, s32_7, s32_9, s32_10, s32_13, s32_16, s32_17, s32_18, s32_19, s32_20, s32_21, s32_22, s32_25, s32_26, s32_28, s32_31, s32_32, s32_35, s32_36, s32_37, s32_38, s32_41, s32_42, s32_45, s32_46, s32_47, s32_48, s32_51, s32_52, s32_53, s32_56, s32_57, s32_58, s32_60, s32_63, s32_64, s32_65, s32_68, s32_69, s32_70, s32_73, s32_76, s32_80, s32_81, s32_84, s32_85, s32_86, s32_89, ai_40 (HMa _ _), aj_40 (HMa _ _), gr_39_2 (HMa _ _), gtP (HMa _ _) hp, gt_30 (HMa _ _), gt_39 (HMa _ _), am32, isRf_ref, true_and, and_true, aPs_s, aPs_n, b01_0, b01_1, nI_clamp, ix_nI, inb_nI, lt_nI, eq_nI, nn_nI, eq0_nI, pk_mul, nI_add, lt_T, lt_F, if_true, if_false, true_and, and_true, neg1_nI, neg1_lt, neg1_neg, lt_neg1, eqN_F, eq_self,  ivD, iflt_m1]
    exact hR _
  | succ j ih =>
    intro hj
    have hjl : j < 2 ^ nS P := by omega
    have ih2 := ih (by omega)
    have e0 : ivD (j + 1) = nI j := rfl
    have em : nI j + (-1) = ivD j := by
      cases j with
      | zero => exact iinc_m0
      | succ j => exact iinc_m1 (by omega)
    have hc : hcN P (2 ^ nS P - j) = hcN P (2 ^ nS P - (j + 1)) + (if (mT P j).isSome = true then 1 else 0) := by
      rw [show 2 ^ nS P - j = (2 ^ nS P - (j + 1)) + 1 by omega, hcN, show 2 ^ nS P - 1 - (2 ^ nS P - (j + 1)) = j by omega]
    have hle := hcN_le (P := P) (j := 2 ^ nS P - (j + 1))
    have LX : LH (obX P h (j + 1) (hcN P (2 ^ nS P - (j + 1)))) p P := ⟨CPg_of (fun q i h1 h2 => by rw [obX_o (by omega) (by omega)]) L.1, ⟨fun b hb => L.2.1.1 b hb, fun s hs => L.2.1.2 s hs⟩, L.2.2⟩
    have T := obX_T (P := P) (h := h) (D := j + 1) (c := hcN P (2 ^ nS P - (j + 1)))
    have ew := obX_w (h := h) (c := hcN P (2 ^ nS P - (j + 1))) (x := uI (mT P j)) hjl rfl
    have ut := uI_top (t := mT P j) (fun x hx => mT_le V hx)
    have er : gI (obX P h j (hcN P (2 ^ nS P - (j + 1)))) 40 j = uI (mT P j) := by rw [obX_40]; exact if_pos ⟨Nat.le_refl _, hjl⟩
    have e1 := obX_1 (P := P) (h := h) (D := j) (c := hcN P (2 ^ nS P - (j + 1)))
    have ec := fun c' => obX_c (P := P) (h := h) (D := j) (c := hcN P (2 ^ nS P - (j + 1))) (c' := c')
    have t39 := gt_39 (HMa j (hcN P (2 ^ nS P - (j + 1))))
    have g40 := gr_39_2 (HMa j (hcN P (2 ^ nS P - (j + 1))))
    have a40 := ai_40 (HMa j (hcN P (2 ^ nS P - (j + 1))))
    have j1024 : j < 1024 := by omega
    rw [hc] at ih2
    rw [s32_27, e0]
    by_cases hfull : j = 2 ^ nS P - 1
    · have e9 : uI (mT P j) = nI 0 := by
        have hb : mT P j = some 0 := by
          rw [mT_eq hjl]
          have key : ∀ n, bsF P (mT P) j n = some 0 := by
            intro n
            induction n with
            | zero => rw [bsF, if_pos hfull]
            | succ n ihn =>
              rw [bsF, ihn]
              unfold oMn
              cases bsN P (mT P) n j with
              | none => rfl
              | some x => simp only; rw [if_neg (Nat.not_lt_zero x)]
          exact key _
        rw [hb]
        rfl
      have e9' : (mT P j).isSome = true := by rw [hfull]; exact mT_full
      rw [e9] at ew er
      have ut : (nI 0 = 2147483647) = False := by decide
      simp only [e9', if_true] at ih2
      rw [← hfull] at ih2
      simp (disch := first | omega | assumption | exact gtP (HMa _ _) hp | exact gt_30 (HMa _ _) | exact gt_39 (HMa _ _) | (simp only [gT_pA, gT_pI, gT_pR]; first | assumption | exact gtP (HMa _ _) hp | exact gt_30 (HMa _ _) | exact gt_39 (HMa _ _)) | fail) only [s32_0, s32_1, s32_4, s32_7, s32_9, s32_10, s32_13, s32_16, s32_17, s32_18, s32_19, s32_20, s32_21, s32_22, s32_25, s32_26, s32_28, s32_31, s32_32, s32_35, s32_36, s32_37, s32_38, s32_41, s32_42, s32_45, s32_46, s32_47, s32_48, s32_51, s32_52, s32_53, s32_56, s32_57, s32_58, s32_60, s32_63, s32_64, s32_65, s32_68, s32_69, s32_70, s32_73, s32_76, s32_80, s32_81, s32_84, s32_85, s32_86, s32_89, ai_40 (HMa _ _), aj_40 (HMa _ _), gr_39_2 (HMa _ _), gtP (HMa _ _) hp, gt_30 (HMa _ _), gt_39 (HMa _ _), am32, isRf_ref, true_and, and_true, aPs_s, aPs_n, b01_0, b01_1, nI_clamp, ix_nI, inb_nI, lt_nI, eq_nI, nn_nI, eq0_nI, pk_mul, nI_add, lt_T, lt_F, if_true, if_false, true_and, and_true, neg1_nI, neg1_lt, neg1_neg, lt_neg1, eqN_F, eq_self,  nn_nI, hfull.symm, ew, t39, g40, a40, j1024, er, ut, e1, ec, em, ih2]
    · have c33' : ∀ Q', aM (d + 4) 33 [.ref 39, .ref 30, .int (nI j)] (obX P h (j + 1) (hcN P (2 ^ nS P - (j + 1)))) Q' = Q' (some (.int (uI (mT P j)))) (obX P h (j + 1) (hcN P (2 ^ nS P - (j + 1)))) := fun Q' => c33 (HMa _ _) hp W LX hjl hfull T
      cases hq : mT P j with
      | none =>
        rw [hq] at c33' ew ut er
        rw [hq] at ih2
        simp only [Option.isSome_none, Bool.false_eq_true, if_false, Nat.add_zero] at ih2 ut
        simp (disch := first | omega | assumption | exact gtP (HMa _ _) hp | exact gt_30 (HMa _ _) | exact gt_39 (HMa _ _) | (simp only [gT_pA, gT_pI, gT_pR]; first | assumption | exact gtP (HMa _ _) hp | exact gt_30 (HMa _ _) | exact gt_39 (HMa _ _)) | fail) only [s32_0, s32_1, s32_4, s32_7, s32_9, s32_10, s32_13, s32_16, s32_17, s32_18, s32_19, s32_20, s32_21, s32_22, s32_25, s32_26, s32_28, s32_31, s32_32, s32_35, s32_36, s32_37, s32_38, s32_41, s32_42, s32_45, s32_46, s32_47, s32_48, s32_51, s32_52, s32_53, s32_56, s32_57, s32_58, s32_60, s32_63, s32_64, s32_65, s32_68, s32_69, s32_70, s32_73, s32_76, s32_80, s32_81, s32_84, s32_85, s32_86, s32_89, ai_40 (HMa _ _), aj_40 (HMa _ _), gr_39_2 (HMa _ _), gtP (HMa _ _) hp, gt_30 (HMa _ _), gt_39 (HMa _ _), am32, isRf_ref, true_and, and_true, aPs_s, aPs_n, b01_0, b01_1, nI_clamp, ix_nI, inb_nI, lt_nI, eq_nI, nn_nI, eq0_nI, pk_mul, nI_add, lt_T, lt_F, if_true, if_false, true_and, and_true, neg1_nI, neg1_lt, neg1_neg, lt_neg1, eqN_F, eq_self,  nn_nI, hfull, c33', ew, t39, g40, a40, j1024, er, ut, em, ih2]
      | some x =>
        rw [hq] at c33' ew ut er
        rw [hq] at ih2
        simp only [Option.isSome_some, Bool.true_eq_false, if_true] at ih2 ut
        simp (disch := first | omega | assumption | exact gtP (HMa _ _) hp | exact gt_30 (HMa _ _) | exact gt_39 (HMa _ _) | (simp only [gT_pA, gT_pI, gT_pR]; first | assumption | exact gtP (HMa _ _) hp | exact gt_30 (HMa _ _) | exact gt_39 (HMa _ _)) | fail) only [s32_0, s32_1, s32_4, s32_7, s32_9, s32_10, s32_13, s32_16, s32_17, s32_18, s32_19, s32_20, s32_21, s32_22, s32_25, s32_26, s32_28, s32_31, s32_32, s32_35, s32_36, s32_37, s32_38, s32_41, s32_42, s32_45, s32_46, s32_47, s32_48, s32_51, s32_52, s32_53, s32_56, s32_57, s32_58, s32_60, s32_63, s32_64, s32_65, s32_68, s32_69, s32_70, s32_73, s32_76, s32_80, s32_81, s32_84, s32_85, s32_86, s32_89, ai_40 (HMa _ _), aj_40 (HMa _ _), gr_39_2 (HMa _ _), gtP (HMa _ _) hp, gt_30 (HMa _ _), gt_39 (HMa _ _), am32, isRf_ref, true_and, and_true, aPs_s, aPs_n, b01_0, b01_1, nI_clamp, ix_nI, inb_nI, lt_nI, eq_nI, nn_nI, eq0_nI, pk_mul, nI_add, lt_T, lt_F, if_true, if_false, true_and, and_true, neg1_nI, neg1_lt, neg1_neg, lt_neg1, eqN_F, eq_self,  nn_nI, hfull, c33', ew, t39, g40, a40, j1024, er, ut, e1, ec, em, ih2]
set_option maxHeartbeats 8000000 in
theorem c32 (H : KC h) (hp : p = 5 ∨ p = 17) {P : Nat → Nat → Int32} (W : okW P) (L : LH h p P) {m : Nat} (hm : mT P 0 = some m) (h0 : gI h 39 0 = nI 0) : aM (d + 6) 32 [.ref 39, .ref 30] h Q = Q none (lpX h P m) := by
  have V := W.1
  have s10 := V.s.1
  have e4 := L.1.s
  have r30 := L.2.2
  have hpw : 2 ^ nS P ≤ 1024 := Nat.pow_le_pow_right (by decide) s10 (n := 2)
  have hp0 := Nat.two_pow_pos (nS P)
  have HMa : ∀ D c, KC (obX P h D c) := fun _ _ => H
  have e1 : nI 1 <<< (nI (nS P) &&& 31) - nI 1 = nI (2 ^ nS P - 1) := by rw [nI_shl (by omega) (by omega), Nat.one_mul, pk_sub (by omega)]
  have st : pI h 39 1 (nI 0) = obX P h (2 ^ nS P) (hcN P (2 ^ nS P - 2 ^ nS P)) := by
    unfold obX
    have : obF P (gI h 40) (2 ^ nS P) = gI h 40 := by
      funext E
      unfold obF
      rw [if_neg (by omega)]
    rw [this, pA_self, Nat.sub_self]
    rfl
  have iv : ivD (2 ^ nS P) = nI (2 ^ nS P - 1) := by
    cases hq : 2 ^ nS P with
    | zero => omega
    | succ k => rfl
  have LX : LH (obX P h 0 (hcN P (2 ^ nS P))) p P := ⟨CPg_of (fun q i h1 h2 => by rw [obX_o (by omega) (by omega)]) L.1, ⟨fun b hb => L.2.1.1 b hb, fun s hs => L.2.1.2 s hs⟩, L.2.2⟩
  have c35' : ∀ Q', aM (d + 5) 35 [.ref 39, .ref 30] (obX P h 0 (hcN P (2 ^ nS P))) Q' = Q' none (frX (obX P h 0 (hcN P (2 ^ nS P))) P m (nS P)) := fun Q' => c35 (HMa _ _) hp W LX hm obX_T
  have main := c32_27 (d := d + 1) (Q := Q) H hp W L (R := Q none (lpX h P m)) (fun x => by
    have HF : KC (frX (obX P h 0 (hcN P (2 ^ nS P))) P m (nS P)) := H
    have t39 := gt_39 HF
    rw [s32_79]
    simp (disch := first | omega | assumption | exact gtP (HMa _ _) hp | exact gt_30 (HMa _ _) | exact gt_39 (HMa _ _) | (simp only [gT_pA, gT_pI, gT_pR]; first | assumption | exact gtP (HMa _ _) hp | exact gt_30 (HMa _ _) | exact gt_39 (HMa _ _)) | fail) only [s32_0, s32_1, s32_4, s32_7, s32_9, s32_10, s32_13, s32_16, s32_17, s32_18, s32_19, s32_20, s32_21, s32_22, s32_25, s32_26, s32_28, s32_31, s32_32, s32_35, s32_36, s32_37, s32_38, s32_41, s32_42, s32_45, s32_46, s32_47, s32_48, s32_51, s32_52, s32_53, s32_56, s32_57, s32_58, s32_60, s32_63, s32_64, s32_65, s32_68, s32_69, s32_70, s32_73, s32_76, s32_80, s32_81, s32_84, s32_85, s32_86, s32_89, ai_40 (HMa _ _), aj_40 (HMa _ _), gr_39_2 (HMa _ _), gtP (HMa _ _) hp, gt_30 (HMa _ _), gt_39 (HMa _ _), am32, isRf_ref, true_and, and_true, aPs_s, aPs_n, b01_0, b01_1, nI_clamp, ix_nI, inb_nI, lt_nI, eq_nI, nn_nI, eq0_nI, pk_mul, nI_add, lt_T, lt_F, if_true, if_false, true_and, and_true, neg1_nI, neg1_lt, neg1_neg, lt_neg1, eqN_F, eq_self,  c35', t39, b01_1]
    rfl) (Nat.le_refl _)
  rw [iv, ← st] at main
  have HB : KC (pI h 39 1 (nI 0)) := H
  have t0 : (nI 0 = 0) = True := nI0_0
  simp (disch := first | omega | assumption | exact gtP H hp | exact gt_30 H | exact gt_39 H | (simp only [gT_pA, gT_pI, gT_pR]; first | assumption | exact gtP H hp | exact gt_30 H | exact gt_39 H) | fail) only [s32_0, s32_1, s32_4, s32_7, s32_9, s32_10, s32_13, s32_16, s32_17, s32_18, s32_19, s32_20, s32_21, s32_22, s32_25, s32_26, s32_28, s32_31, s32_32, s32_35, s32_36, s32_37, s32_38, s32_41, s32_42, s32_45, s32_46, s32_47, s32_48, s32_51, s32_52, s32_53, s32_56, s32_57, s32_58, s32_60, s32_63, s32_64, s32_65, s32_68, s32_69, s32_70, s32_73, s32_76, s32_80, s32_81, s32_84, s32_85, s32_86, s32_89, ai_40 H, aj_40 H, gr_39_2 H, gtP H hp, gt_30 H, gt_39 H, am32, isRf_ref, true_and, and_true, aPs_s, aPs_n, b01_0, b01_1, nI_clamp, ix_nI, inb_nI, lt_nI, eq_nI, nn_nI, eq0_nI, pk_mul, nI_add, lt_T, lt_F, if_true, if_false, true_and, and_true, neg1_nI, neg1_lt, neg1_neg, lt_neg1, eqN_F, eq_self,  h0, t0]
  rw [s32_8]
  simp (disch := first | omega | assumption | exact gtP H hp | exact gt_30 H | exact gt_39 H | (simp only [gT_pA, gT_pI, gT_pR]; first | assumption | exact gtP H hp | exact gt_30 H | exact gt_39 H) | fail) only [s32_0, s32_1, s32_4, s32_7, s32_8, s32_9, s32_10, s32_13, s32_16, s32_17, s32_18, s32_19, s32_20, s32_21, s32_22, s32_25, s32_26, s32_28, s32_31, s32_32, s32_35, s32_36, s32_37, s32_38, s32_41, s32_42, s32_45, s32_46, s32_47, s32_48, s32_51, s32_52, s32_53, s32_56, s32_57, s32_58, s32_60, s32_63, s32_64, s32_65, s32_68, s32_69, s32_70, s32_73, s32_76, s32_80, s32_81, s32_84, s32_85, s32_86, s32_89, ai_40 H, aj_40 H, gr_39_2 H, gtP H hp, gt_30 H, gt_39 H, am32, isRf_ref, true_and, and_true, aPs_s, aPs_n, b01_0, b01_1, nI_clamp, ix_nI, inb_nI, lt_nI, eq_nI, nn_nI, eq0_nI, pk_mul, nI_add, lt_T, lt_F, if_true, if_false, true_and, and_true, neg1_nI, neg1_lt, neg1_neg, lt_neg1, eqN_F, eq_self,  r30, e4, e1]
  exact main
end C12
