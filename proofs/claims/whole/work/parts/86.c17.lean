/-! THE CLASS: HEIGHT, the search -/
def hsS : Nat → Nat → Prop := fun o k => o = 43 ∨ o = 44 ∨ (o = 42 ∧ k = 2)
def lwN (P : Nat → Nat → Int32) (o bb : Nat → Nat) (n : Nat) (best : Option (List Nat)) : Nat := match best with
  | none => 2147483647
  | some b => lyT P o bb (gf b) n
/-- what does not change as one looks for HEIGHT -/
def HX (h : abH) (P : Nat → Nat → Int32) (o : Nat → Nat) (s n : Nat) (bb : Nat → Nat) : Prop := KC h ∧ LD h P ∧ TL h P o ∧ HD h s ∧ SB h s n bb
/-- what is found so far -/
def hsI (h : abH) (P : Nat → Nat → Int32) (o bb : Nat → Nat) (n : Nat) (r : List Nat) (best : Option (List Nat)) : Prop :=
  (∀ j, j ∈ r → gI h 43 j = nI (lyL P o bb (gf r) r.length j)) ∧ gI h 42 2 = nI (lwN P o bb n best) ∧ ∀ b, best = some b → lyT P o bb (gf b) n ≤ 300000 ∧ ∀ k, k < n → gI h 44 k = nI (lyL P o bb (gf b) n k)
theorem HX_fr {h h' : abH} {P : Nat → Nat → Int32} {o : Nat → Nat} {s n : Nat} {bb : Nat → Nat} (F : Fr hsS noT h h') (X : HX h P o s n bb) : HX h' P o s n bb := by
  obtain ⟨H, L, T, N, B⟩ := X
  have e : ∀ o k, ¬ (o = 43 ∨ o = 44 ∨ (o = 42 ∧ k = 2)) → gI h' o k = gI h o k := fun o k q => F.2.2 o k q
  refine ⟨Fr_KC F (fun e _ q => q) H, ⟨fun b hb => ?_, fun s' hs' => ?_⟩, ⟨fun k hk => ?_, fun b hb => ?_⟩, ⟨?_, ?_⟩, ⟨?_, fun i hi => ?_⟩⟩
  · rw [e _ _ (by omega)]; exact L.1 b hb
  · rw [e _ _ (by omega), e _ _ (by omega)]; exact L.2 s' hs'
  · rw [e _ _ (by omega), e _ _ (by omega), e _ _ (by omega)]; exact T.1 k hk
  · rw [e _ _ (by omega), e _ _ (by omega)]; exact T.2 b hb
  · rw [F.2.1 42 0 (fun q => q)]; exact N.1
  · rw [F.2.1 42 1 (fun q => q)]; exact N.2
  · rw [e _ _ (by omega)]; exact B.1
  · rw [e _ _ (by omega)]; exact B.2 i hi
theorem lwN_lt {P : Nat → Nat → Int32} {o bb : Nat → Nat} {n : Nat} {best : Option (List Nat)} (h : ∀ b, best = some b → lyT P o bb (gf b) n ≤ 300000) : lwN P o bb n best < 2 ^ 31 := by
  unfold lwN
  cases best with
  | none => simp
  | some b => have := h b rfl; simp only; omega
theorem prn_lw {P : Nat → Nat → Int32} {o bb : Nat → Nat} {n : Nat} {r : List Nat} {best : Option (List Nat)} (hr : lyT P o bb (gf r) r.length ≤ 300000) : prn P o bb n r best = false ↔ lyT P o bb (gf r) r.length < lwN P o bb n best := by
  unfold prn lwN
  cases best with
  | none => exact ⟨fun _ => by show _ < 2147483647; omega, fun _ => rfl⟩
  | some b => simp only; rw [decide_eq_false_iff_not]; omega
section C17
variable {d p : Nat} {P : Nat → Nat → Int32} {o bb : Nat → Nat} {s n : Nat}
theorem cpy_okh {n a b : Nat} (hn : n < 2 ^ 31) (h1 : n ≤ a) (h2 : n ≤ b) : ¬ nI 0 < 0 ∧ ¬ nI 0 < 0 ∧ ¬ nI n < 0 ∧ (nI 0).toNatClampNeg + (nI n).toNatClampNeg ≤ a ∧ (nI 0).toNatClampNeg + (nI n).toNatClampNeg ≤ b := cpy_ok hn h1 h2
set_option maxHeartbeats 8000000 in
theorem t15 (V : okP P) (hs : s < 4) (hn : n ≤ 6) : ∀ (m : Nat) {r : List Nat} {best : Option (List Nat)} {h : abH} {Q : Option Value → abH → Prop}, r.length + m = n → rwK n r → HX h P o s n bb → hsI h P o bb n r best → (∀ h', Fr hsS noT h h' → (∀ j, j ∈ r → gI h' 43 j = gI h 43 j) → hsI h' P o bb n r (exF P o bb n m r best) → Q none h') → aM (d + 2 * m + 3) 15 [.ref 42, .int (nI r.length), .int (nI (obt (gf r) r.length)), .int (nI (lyT P o bb (gf r) r.length))] h Q := by
  intro m
  induction m with
  | zero =>
    intro r best h Q hl K X I hQ
    have hl : r.length = n := by omega
    obtain ⟨H, L, T, N, B⟩ := id X
    obtain ⟨i1, i2, i3⟩ := id I
    have B1 := B.1
    have hbb : ∀ k, k < r.length → bb (gf r k) < 12 := fun k hk => (B.2 _ (K.1 k hk)).2
    have hly := (ly_ok V (o := o) (bb := bb) (f := gf r) (g := fun _ => 0) (n := r.length) (by omega) hbb (Nat.le_refl _)).2
    have pl := prn_lw (P := P) (o := o) (bb := bb) (n := n) (r := r) (best := best) (by omega)
    have lt := lt_nI (a := lyT P o bb (gf r) r.length) (b := lwN P o bb n best) (by omega) (lwN_lt (fun b e => (i3 b e).1))
    rw [show d + 2 * 0 + 3 = d + 2 + 1 by omega]
    rcases Bool.eq_false_or_eq_true (prn P o bb n r best) with g | g
    · have hno : ¬ lyT P o bb (gf r) r.length < lwN P o bb n best := fun q => by rw [pl.mpr q] at g; cases g
      have q := hQ h Fr_refl (fun _ _ => rfl) (by rw [exF, if_pos g]; exact I)
      simp (disch := first | omega | assumption | exact gtS H hs | exact gt_42 H | (simp only [gT_pA, gT_pI, gT_pR]; first | assumption | exact gtS H hs | exact gt_42 H) | fail) only [s15_0, s15_1, s15_2, s15_5, s15_8, s15_10, s15_11, s15_14, s15_17, s15_20, s15_21, s15_22, s15_25, s15_26, s15_29, s15_30, s15_31, s15_34, s15_35, s15_36, s15_39, s15_42, s15_45, s15_46, s15_47, s15_51, s15_52, s15_55, s15_58, s15_61, s15_62, s15_64, s15_65, s15_66, s15_67, s15_70, s15_71, s15_73, s15_74, s15_75, s15_76, s15_79, s15_82, s15_85, gr_42_3 H, gr_42_5 H, gtS H hs, gt_42 H, am15, isRf_ref, true_and, and_true, aPs_s, aPs_n, b01_0, b01_1, nI_clamp, ix_nI, inb_nI, lt_nI, eq_nI, nn_nI, eq0_nI, pk_mul, nI_add, lt_T, lt_F, if_true, if_false, true_and, and_true, neg1_nI, neg1_lt, neg1_neg, lt_neg1, eqN_F, eq_self,  i2, lt, hno]
      exact q
    · have hyes := pl.mp g
      have all : ∀ k, k < n → k ∈ r := fun k hk => by
        have := cntB_all (by rw [K.2]; exact hl) k hk
        rw [row_tb, List.contains_iff_mem] at this
        exact this
      have h1 : ¬ r.length < n := by omega
      have n2 := N.2
      have HA : KC (pI h 42 2 (nI (lyT P o bb (gf r) r.length))) := H
      have n2' : gR (pI h 42 2 (nI (lyT P o bb (gf r) r.length))) 42 1 = .ref (57 + 2 * s) := n2
      have B1' : gI (pI h 42 2 (nI (lyT P o bb (gf r) r.length))) (57 + 2 * s) 1 = nI n := by rw [pI_def, gI_ne (by omega)]; exact B1
      have ec : pA (pI h 42 2 (nI (lyT P o bb (gf r) r.length))) 44 (va_cpy (gI (pI h 42 2 (nI (lyT P o bb (gf r) r.length))) 43) (gI (pI h 42 2 (nI (lyT P o bb (gf r) r.length))) 44) (nI 0).toNatClampNeg (nI 0).toNatClampNeg (nI n).toNatClampNeg) = pA (pI h 42 2 (nI (lyT P o bb (gf r) r.length))) 44 (pre (gI h 43) n (gI h 44)) := by
        rw [nI_clamp (by decide), nI_clamp (by omega), cpy_pre]
        rfl
      simp (disch := first | omega | assumption | exact gtS H hs | exact gt_42 H | (simp only [gT_pA, gT_pI, gT_pR]; first | assumption | exact gtS H hs | exact gt_42 H) | fail) only [s15_0, s15_1, s15_2, s15_5, s15_8, s15_10, s15_11, s15_14, s15_17, s15_20, s15_21, s15_22, s15_25, s15_26, s15_29, s15_30, s15_31, s15_34, s15_35, s15_36, s15_39, s15_42, s15_45, s15_46, s15_47, s15_51, s15_52, s15_55, s15_58, s15_61, s15_62, s15_64, s15_65, s15_66, s15_67, s15_70, s15_71, s15_73, s15_74, s15_75, s15_76, s15_79, s15_82, s15_85, gr_42_3 H, gr_42_5 H, gtS H hs, gt_42 H, am15, isRf_ref, true_and, and_true, aPs_s, aPs_n, b01_0, b01_1, nI_clamp, ix_nI, inb_nI, lt_nI, eq_nI, nn_nI, eq0_nI, pk_mul, nI_add, lt_T, lt_F, if_true, if_false, true_and, and_true, neg1_nI, neg1_lt, neg1_neg, lt_neg1, eqN_F, eq_self,  i2, lt, hyes]
      rw [s15_9]
      simp (disch := first | omega | assumption | exact gtS H hs | exact gt_42 H | (simp only [gT_pA, gT_pI, gT_pR]; first | assumption | exact gtS H hs | exact gt_42 H) | fail) only [s15_0, s15_1, s15_2, s15_5, s15_8, s15_9, s15_10, s15_11, s15_14, s15_17, s15_20, s15_21, s15_22, s15_26, s15_29, s15_30, s15_31, s15_34, s15_35, s15_36, s15_39, s15_45, s15_46, s15_47, s15_51, s15_52, s15_55, s15_58, s15_61, s15_62, s15_64, s15_65, s15_66, s15_67, s15_70, s15_71, s15_73, s15_74, s15_75, s15_76, s15_79, s15_82, s15_85, gr_42_3 H, gr_42_5 H, gtS H hs, gt_42 H, am15, isRf_ref, true_and, and_true, aPs_s, aPs_n, b01_0, b01_1, nI_clamp, ix_nI, inb_nI, lt_nI, eq_nI, nn_nI, eq0_nI, pk_mul, nI_add, lt_T, lt_F, if_true, if_false, true_and, and_true, neg1_nI, neg1_lt, neg1_neg, lt_neg1, eqN_F, eq_self,  n2, B1, h1]
      rw [s15_25]
      simp (disch := first | omega | assumption | exact gtS HA hs | exact gt_42 HA | (simp only [gT_pA, gT_pI, gT_pR]; first | assumption | exact gtS HA hs | exact gt_42 HA) | fail) only [s15_0, s15_1, s15_2, s15_5, s15_8, s15_9, s15_10, s15_11, s15_14, s15_17, s15_20, s15_21, s15_22, s15_25, s15_26, s15_29, s15_30, s15_31, s15_34, s15_35, s15_36, s15_39, s15_45, s15_46, s15_47, s15_51, s15_52, s15_55, s15_58, s15_61, s15_62, s15_64, s15_65, s15_66, s15_67, s15_70, s15_71, s15_73, s15_74, s15_75, s15_76, s15_79, s15_82, s15_85, gr_42_3 HA, gr_42_5 HA, gtS HA hs, gt_42 HA, am15, isRf_ref, true_and, and_true, aPs_s, aPs_n, b01_0, b01_1, nI_clamp, ix_nI, inb_nI, lt_nI, eq_nI, nn_nI, eq0_nI, pk_mul, nI_add, lt_T, lt_F, if_true, if_false, true_and, and_true, neg1_nI, neg1_lt, neg1_neg, lt_neg1, eqN_F, eq_self,  n2', B1']
      rw [s15_42 (gt_43 HA) (gt_44 HA) (cpy_okh (by omega) (by omega) (by omega)), ec]
      simp (disch := first | omega | assumption | exact gtS HA hs | exact gt_42 HA | (simp only [gT_pA, gT_pI, gT_pR]; first | assumption | exact gtS HA hs | exact gt_42 HA) | fail) only [s15_0, s15_1, s15_2, s15_5, s15_8, s15_9, s15_10, s15_11, s15_14, s15_17, s15_20, s15_21, s15_22, s15_25, s15_26, s15_29, s15_30, s15_31, s15_34, s15_35, s15_36, s15_39, s15_42, s15_45, s15_46, s15_47, s15_51, s15_52, s15_55, s15_58, s15_61, s15_62, s15_64, s15_65, s15_66, s15_67, s15_70, s15_71, s15_73, s15_74, s15_75, s15_76, s15_79, s15_82, s15_85, gr_42_3 HA, gr_42_5 HA, gtS HA hs, gt_42 HA, am15, isRf_ref, true_and, and_true, aPs_s, aPs_n, b01_0, b01_1, nI_clamp, ix_nI, inb_nI, lt_nI, eq_nI, nn_nI, eq0_nI, pk_mul, nI_add, lt_T, lt_F, if_true, if_false, true_and, and_true, neg1_nI, neg1_lt, neg1_neg, lt_neg1, eqN_F, eq_self, ]
      refine hQ _ (Fr_trans (Fr_pI (Or.inr (Or.inr ⟨rfl, rfl⟩))) (Fr_pA (fun k => Or.inr (Or.inl rfl)))) (fun j hj => rfl) ?_
      rw [exF, if_neg (by rw [g]; decide)]
      refine ⟨i1, ?_, fun b hb => ?_⟩
      · show gI (pI h 42 2 (nI (lyT P o bb (gf r) r.length))) 42 2 = _
        rw [pI_def, gI_eq, upd_eq]
        unfold lwN
        rw [hl]
      · cases hb
        refine ⟨by rw [← hl]; omega, fun k hk => ?_⟩
        rw [gI_eq, pre_in hk, i1 k (all k hk), hl]
  | succ m ih =>
    intro r best h Q hl K X I hQ
    have hrn : r.length < n := by omega
    obtain ⟨H, L, T, N, B⟩ := id X
    obtain ⟨i1, i2, i3⟩ := id I
    have B1 := B.1
    have hbb : ∀ k, k < r.length → bb (gf r k) < 12 := fun k hk => (B.2 _ (K.1 k hk)).2
    have hly := (ly_ok V (o := o) (bb := bb) (f := gf r) (g := fun _ => 0) (n := r.length) (by omega) hbb (Nat.le_refl _)).2
    have pl := prn_lw (P := P) (o := o) (bb := bb) (n := n) (r := r) (best := best) (by omega)
    have lt := lt_nI (a := lyT P o bb (gf r) r.length) (b := lwN P o bb n best) (by omega) (lwN_lt (fun b e => (i3 b e).1))
    have hD : obt (gf r) r.length < 64 := Nat.lt_of_lt_of_le (rwK_lt K) (Nat.pow_le_pow_right (n := 2) (by decide) hn)
    rw [show d + 2 * (m + 1) + 3 = d + 2 * m + 3 + 1 + 1 by omega]
    rcases Bool.eq_false_or_eq_true (prn P o bb n r best) with g | g
    · have hno : ¬ lyT P o bb (gf r) r.length < lwN P o bb n best := fun q => by rw [pl.mpr q] at g; cases g
      have q := hQ h Fr_refl (fun _ _ => rfl) (by rw [exF, if_pos g]; exact I)
      simp (disch := first | omega | assumption | exact gtS H hs | exact gt_42 H | (simp only [gT_pA, gT_pI, gT_pR]; first | assumption | exact gtS H hs | exact gt_42 H) | fail) only [s15_0, s15_1, s15_2, s15_5, s15_8, s15_10, s15_11, s15_14, s15_17, s15_20, s15_21, s15_22, s15_25, s15_26, s15_29, s15_30, s15_31, s15_34, s15_35, s15_36, s15_39, s15_42, s15_45, s15_46, s15_47, s15_51, s15_52, s15_55, s15_58, s15_61, s15_62, s15_64, s15_65, s15_66, s15_67, s15_70, s15_71, s15_73, s15_74, s15_75, s15_76, s15_79, s15_82, s15_85, gr_42_3 H, gr_42_5 H, gtS H hs, gt_42 H, am15, isRf_ref, true_and, and_true, aPs_s, aPs_n, b01_0, b01_1, nI_clamp, ix_nI, inb_nI, lt_nI, eq_nI, nn_nI, eq0_nI, pk_mul, nI_add, lt_T, lt_F, if_true, if_false, true_and, and_true, neg1_nI, neg1_lt, neg1_neg, lt_neg1, eqN_F, eq_self,  i2, lt, hno]
      exact q
    · have hyes := pl.mp g
      -- all that may come next
      have loop : ∀ (k i : Nat) (h1 : abH), i + k = n → Fr hsS noT h h1 → (∀ j, j ∈ r → gI h1 43 j = gI h 43 j) → hsI h1 P o bb n r (exI (exF P o bb n m) r best i) → aW (d + 2 * m + 3 + 1 + 1) 15 49 [.ref 42, .int (nI r.length), .int (nI (obt (gf r) r.length)), .int (nI (lyT P o bb (gf r) r.length)), .int (nI i)] [] h1 Q := by
        intro k
        induction k with
        | zero =>
          intro i h1 hi F1 A1 I1
          have hi : i = n := by omega
          subst hi
          obtain ⟨H1, L1, T1, N1, B1⟩ := HX_fr F1 X
          have b1 := B1.1
          rw [s15_49]
          simp (disch := first | omega | assumption | exact gtS H1 hs | exact gt_42 H1 | (simp only [gT_pA, gT_pI, gT_pR]; first | assumption | exact gtS H1 hs | exact gt_42 H1) | fail) only [s15_0, s15_1, s15_2, s15_5, s15_8, s15_9, s15_10, s15_11, s15_14, s15_17, s15_20, s15_21, s15_22, s15_25, s15_26, s15_29, s15_30, s15_31, s15_34, s15_35, s15_36, s15_39, s15_42, s15_45, s15_46, s15_47, s15_51, s15_52, s15_55, s15_58, s15_61, s15_62, s15_64, s15_65, s15_66, s15_67, s15_70, s15_71, s15_73, s15_74, s15_75, s15_76, s15_79, s15_82, s15_85, gr_42_3 H1, gr_42_5 H1, gtS H1 hs, gt_42 H1, am15, isRf_ref, true_and, and_true, aPs_s, aPs_n, b01_0, b01_1, nI_clamp, ix_nI, inb_nI, lt_nI, eq_nI, nn_nI, eq0_nI, pk_mul, nI_add, lt_T, lt_F, if_true, if_false, true_and, and_true, neg1_nI, neg1_lt, neg1_neg, lt_neg1, eqN_F, eq_self,  N1.2, b1, Nat.lt_irrefl]
          refine hQ h1 F1 A1 ?_
          rw [exF, if_neg (by rw [g]; decide)]
          exact I1
        | succ k ihk =>
          intro i h1 hi F1 A1 I1
          have hin : i < n := by omega
          obtain ⟨H1, L1, T1, N1, B1⟩ := id (HX_fr F1 X)
          have b1 := B1.1
          have rt := row_tb (r := r) (i := i)
          rw [s15_49]
          rcases Bool.eq_false_or_eq_true (r.contains i) with c | c
          · rw [c] at rt
            simp (disch := first | omega | assumption | exact gtS H1 hs | exact gt_42 H1 | (simp only [gT_pA, gT_pI, gT_pR]; first | assumption | exact gtS H1 hs | exact gt_42 H1) | fail) only [s15_0, s15_1, s15_2, s15_5, s15_8, s15_9, s15_10, s15_11, s15_14, s15_17, s15_20, s15_21, s15_22, s15_25, s15_26, s15_29, s15_30, s15_31, s15_34, s15_35, s15_36, s15_39, s15_42, s15_45, s15_46, s15_47, s15_51, s15_52, s15_55, s15_58, s15_61, s15_62, s15_64, s15_65, s15_66, s15_67, s15_70, s15_71, s15_73, s15_74, s15_75, s15_76, s15_79, s15_82, s15_85, gr_42_3 H1, gr_42_5 H1, gtS H1 hs, gt_42 H1, am15, isRf_ref, true_and, and_true, aPs_s, aPs_n, b01_0, b01_1, nI_clamp, ix_nI, inb_nI, lt_nI, eq_nI, nn_nI, eq0_nI, pk_mul, nI_add, lt_T, lt_F, if_true, if_false, true_and, and_true, neg1_nI, neg1_lt, neg1_neg, lt_neg1, eqN_F, eq_self,  N1.2, b1, hin, bit_0, rt, Bool.not_false, Bool.not_true, Bool.true_and, Bool.false_and, Bool.and_true, Bool.and_false, Bool.or_true, Bool.or_false, Bool.true_or, Bool.false_or, Bool.true_eq_false, Bool.false_eq_true, if_true, if_false, Option.isSome_some, Option.isSome_none, Option.isNone_some, Option.isNone_none, zB_t, zB_f, nI1_0, nI0_0]
            refine ihk (i + 1) h1 (by omega) F1 A1 ?_
            rw [exI, if_pos c]
            exact I1
          · rw [c] at rt
            obtain ⟨K2, eU⟩ := rwK_add K hin c
            have c18' : ∀ Q', aM (d + 2 * m + 3) 18 [.ref 42, .int (nI i), .int (nI (obt (gf r) r.length))] h1 Q' = Q' (some (.int (nI (lyX P o bb (gf (r ++ [i])) r.length (lyL P o bb (gf (r ++ [i])) r.length))))) h1 := fun Q' => by
              rw [show d + 2 * m + 3 = d + 2 * m + 1 + 2 by omega]
              exact c18 H1 V L1 T1 hs hn N1 B1 K hin c hrn I1.1
            have hlen : (r ++ [i]).length = r.length + 1 := by simp
            have hbb2 : ∀ k, k < (r ++ [i]).length → bb (gf (r ++ [i]) k) < 12 := fun k hk => (B1.2 _ (K2.1 k hk)).2
            have hly2 := ly_ok V (o := o) (bb := bb) (f := gf (r ++ [i])) (g := fun _ => 0) (n := (r ++ [i]).length) (by omega) hbb2 (Nat.le_refl _)
            obtain ⟨x, hx⟩ : ∃ x, x = lyX P o bb (gf (r ++ [i])) r.length (lyL P o bb (gf (r ++ [i])) r.length) := ⟨_, rfl⟩
            have eL : ∀ j, lyL P o bb (gf (r ++ [i])) (r ++ [i]).length j = if j = i then x else lyL P o bb (gf r) r.length j := fun j => by
              rw [hlen, lyL, gf_last, ← hx, (ly_congr (P := P) (o := o) (bb := bb) (fun j hj => gf_app (r := r) (q := [i]) hj)).1]
            have eT : lyT P o bb (gf (r ++ [i])) (r ++ [i]).length = if lyT P o bb (gf r) r.length < x + zS P (bb i) then x + zS P (bb i) else lyT P o bb (gf r) r.length := by
              rw [hlen, lyT, gf_last, ← hx, (ly_congr (P := P) (o := o) (bb := bb) (fun j hj => gf_app (r := r) (q := [i]) hj)).2]
            have hxl : x ≤ 235224 := by
              have := (hly2.1 r.length (by omega)).2
              rw [gf_last, eL, if_pos rfl] at this
              omega
            rw [← hx] at c18'
            have zi := (zS_ok V (B1.2 i hin).2).2
            -- it lies
            have F2 : Fr hsS noT h1 (pI h1 43 i (nI x)) := Fr_pI (Or.inl rfl)
            have X2 := HX_fr F2 (HX_fr F1 X)
            obtain ⟨H2, L2, T2, N2, B2⟩ := id X2
            have e43 : gI (pI h1 43 i (nI x)) 43 i = nI x := by rw [pI_def, gI_eq, upd_eq]
            have e43n : ∀ j, j ≠ i → gI (pI h1 43 i (nI x)) 43 j = gI h1 43 j := fun j hj => by rw [pI_def, gI_eq, upd_ne hj]
            have c17' : ∀ Q', aM (d + 2 * m + 3) 17 [.ref 42, .int (nI i)] (pI h1 43 i (nI x)) Q' = Q' (some (.int (nI (x + zS P (bb i))))) (pI h1 43 i (nI x)) := fun Q' => c17 H2 V L2 hs hn N2 B2 hin e43 (by omega)
            have em := iMax_nI (a := lyT P o bb (gf r) r.length) (b := x + zS P (bb i)) (by omega) (by omega)
            rw [← eT] at em
            have ni : ∀ j, j ∈ r → j ≠ i := fun j hj e => by
              subst e
              rw [← List.contains_iff_mem] at hj
              rw [hj] at c
              cases c
            have I2 : hsI (pI h1 43 i (nI x)) P o bb n (r ++ [i]) (exI (exF P o bb n m) r best i) := by
              refine ⟨fun j hj => ?_, I1.2.1, fun b hb => I1.2.2 b hb⟩
              rw [eL]
              by_cases e : j = i
              · rw [if_pos e, e]; exact e43
              · rw [if_neg e, e43n j e]
                rw [List.mem_append, List.mem_singleton] at hj
                exact I1.1 j (hj.resolve_right e)
            have t43 := gt_43 H1
            have i6 : i < 6 := by omega
            have aj := aj_43 H1
            have main := fun Q' => ih (r := r ++ [i]) (best := exI (exF P o bb n m) r best i) (h := pI h1 43 i (nI x)) (Q := Q') (by omega) K2 X2 I2
            rw [eU, hlen] at main
            simp (disch := first | omega | assumption | exact gtS H1 hs | exact gt_42 H1 | (simp only [gT_pA, gT_pI, gT_pR]; first | assumption | exact gtS H1 hs | exact gt_42 H1) | fail) only [s15_0, s15_1, s15_2, s15_5, s15_8, s15_9, s15_10, s15_11, s15_14, s15_17, s15_20, s15_21, s15_22, s15_25, s15_26, s15_29, s15_30, s15_31, s15_34, s15_35, s15_36, s15_39, s15_42, s15_45, s15_46, s15_47, s15_51, s15_52, s15_55, s15_58, s15_61, s15_62, s15_64, s15_65, s15_66, s15_67, s15_70, s15_71, s15_73, s15_74, s15_75, s15_76, s15_79, s15_82, s15_85, gr_42_3 H1, gr_42_5 H1, gtS H1 hs, gt_42 H1, am15, isRf_ref, true_and, and_true, aPs_s, aPs_n, b01_0, b01_1, nI_clamp, ix_nI, inb_nI, lt_nI, eq_nI, nn_nI, eq0_nI, pk_mul, nI_add, lt_T, lt_F, if_true, if_false, true_and, and_true, neg1_nI, neg1_lt, neg1_neg, lt_neg1, eqN_F, eq_self,  N1.2, b1, hin, bit_0, rt, Bool.not_false, Bool.not_true, Bool.true_and, Bool.false_and, Bool.and_true, Bool.and_false, Bool.or_true, Bool.or_false, Bool.true_or, Bool.false_or, Bool.true_eq_false, Bool.false_eq_true, if_true, if_false, Option.isSome_some, Option.isSome_none, Option.isNone_some, Option.isNone_none, zB_t, zB_f, nI1_0, nI0_0]
            simp (disch := first | omega | assumption | exact gt_42 H1 | (simp only [gT_pA, gT_pI, gT_pR]; first | assumption | exact gt_42 H1) | fail) only [s16_0, s16_1, s16_4, s16_5, s16_6, s16_7, s16_8, s16_11, s16_13, s16_14, s16_15, s16_16, s16_17, s16_18, s16_19, s16_20, s16_21, s16_23, s16_24, s16_25, s16_28, s16_31, s16_34, aj_43 H1, gr_42_3 H1, gt_42 H1, am16, isRf_ref, true_and, and_true, aPs_s, aPs_n, b01_0, b01_1, nI_clamp, ix_nI, inb_nI, lt_nI, eq_nI, nn_nI, eq0_nI, pk_mul, nI_add, lt_T, lt_F, if_true, if_false, true_and, and_true, neg1_nI, neg1_lt, neg1_neg, lt_neg1, eqN_F, eq_self,  c18', i6]
            rw [s16_12]
            simp (disch := first | omega | assumption | exact gt_42 H2 | (simp only [gT_pA, gT_pI, gT_pR]; first | assumption | exact gt_42 H2) | fail) only [s16_0, s16_1, s16_4, s16_5, s16_6, s16_7, s16_8, s16_11, s16_12, s16_13, s16_14, s16_15, s16_16, s16_17, s16_18, s16_19, s16_20, s16_21, s16_23, s16_24, s16_25, s16_28, s16_31, s16_34, aj_43 H2, gr_42_3 H2, gt_42 H2, am16, isRf_ref, true_and, and_true, aPs_s, aPs_n, b01_0, b01_1, nI_clamp, ix_nI, inb_nI, lt_nI, eq_nI, nn_nI, eq0_nI, pk_mul, nI_add, lt_T, lt_F, if_true, if_false, true_and, and_true, neg1_nI, neg1_lt, neg1_neg, lt_neg1, eqN_F, eq_self,  nI_bit, c17', em]
            rw [hlen]
            refine main _ (fun h3 F3 A3 I3 => ?_)
            simp (disch := first | omega | assumption | exact gt_42 H2 | (simp only [gT_pA, gT_pI, gT_pR]; first | assumption | exact gt_42 H2) | fail) only [s16_0, s16_1, s16_4, s16_5, s16_6, s16_7, s16_8, s16_11, s16_12, s16_13, s16_14, s16_15, s16_16, s16_17, s16_18, s16_19, s16_20, s16_21, s16_23, s16_24, s16_25, s16_28, s16_31, s16_34, aj_43 H2, gr_42_3 H2, gt_42 H2, am16, isRf_ref, true_and, and_true, aPs_s, aPs_n, b01_0, b01_1, nI_clamp, ix_nI, inb_nI, lt_nI, eq_nI, nn_nI, eq0_nI, pk_mul, nI_add, lt_T, lt_F, if_true, if_false, true_and, and_true, neg1_nI, neg1_lt, neg1_neg, lt_neg1, eqN_F, eq_self, ]
            refine ihk (i + 1) h3 (by omega) (Fr_trans F1 (Fr_trans F2 F3)) (fun j hj => ?_) ?_
            · rw [A3 j (List.mem_append.mpr (Or.inl hj)), e43n j (ni j hj)]
              exact A1 j hj
            · rw [exI, if_neg (by rw [c]; decide)]
              refine ⟨fun j hj => ?_, I3.2.1, I3.2.2⟩
              rw [A3 j (List.mem_append.mpr (Or.inl hj)), e43n j (ni j hj)]
              exact I1.1 j hj
      simp (disch := first | omega | assumption | exact gtS H hs | exact gt_42 H | (simp only [gT_pA, gT_pI, gT_pR]; first | assumption | exact gtS H hs | exact gt_42 H) | fail) only [s15_0, s15_1, s15_2, s15_5, s15_8, s15_10, s15_11, s15_14, s15_17, s15_20, s15_21, s15_22, s15_25, s15_26, s15_29, s15_30, s15_31, s15_34, s15_35, s15_36, s15_39, s15_42, s15_45, s15_46, s15_47, s15_51, s15_52, s15_55, s15_58, s15_61, s15_62, s15_64, s15_65, s15_66, s15_67, s15_70, s15_71, s15_73, s15_74, s15_75, s15_76, s15_79, s15_82, s15_85, gr_42_3 H, gr_42_5 H, gtS H hs, gt_42 H, am15, isRf_ref, true_and, and_true, aPs_s, aPs_n, b01_0, b01_1, nI_clamp, ix_nI, inb_nI, lt_nI, eq_nI, nn_nI, eq0_nI, pk_mul, nI_add, lt_T, lt_F, if_true, if_false, true_and, and_true, neg1_nI, neg1_lt, neg1_neg, lt_neg1, eqN_F, eq_self,  i2, lt, hyes]
      rw [s15_9]
      simp (disch := first | omega | assumption | exact gtS H hs | exact gt_42 H | (simp only [gT_pA, gT_pI, gT_pR]; first | assumption | exact gtS H hs | exact gt_42 H) | fail) only [s15_0, s15_1, s15_2, s15_5, s15_8, s15_9, s15_10, s15_11, s15_14, s15_17, s15_20, s15_21, s15_22, s15_26, s15_29, s15_30, s15_31, s15_34, s15_35, s15_36, s15_39, s15_45, s15_46, s15_47, s15_51, s15_52, s15_55, s15_58, s15_61, s15_62, s15_64, s15_65, s15_66, s15_67, s15_70, s15_71, s15_73, s15_74, s15_75, s15_76, s15_79, s15_82, s15_85, gr_42_3 H, gr_42_5 H, gtS H hs, gt_42 H, am15, isRf_ref, true_and, and_true, aPs_s, aPs_n, b01_0, b01_1, nI_clamp, ix_nI, inb_nI, lt_nI, eq_nI, nn_nI, eq0_nI, pk_mul, nI_add, lt_T, lt_F, if_true, if_false, true_and, and_true, neg1_nI, neg1_lt, neg1_neg, lt_neg1, eqN_F, eq_self,  N.2, B1, hrn]
      exact loop n 0 h (by omega) Fr_refl (fun _ _ => rfl) I
theorem hgF_some {best : List Nat} {l : List (List Nat)} : ∃ b, hgF P o bb n (some best) l = some b := by
  induction l generalizing best with
  | nil => exact ⟨best, rfl⟩
  | cons r l ih =>
    rw [hgF]
    unfold hgB
    simp only
    split
    · exact ih
    · exact ih
theorem hg_some (hn : n ≤ 6) : ∃ b, hgF P o bb n none (rws n) = some b := by
  obtain ⟨r, l, e, _⟩ := rws_hd n hn
  rw [e, hgF]
  exact hgF_some
def hfS : Nat → Nat → Prop := fun o k => o = 43 ∨ o = 44 ∨ (o = 42 ∧ (k = 2 ∨ k = 4))
def hfT : Nat → Nat → Prop := fun o k => o = 42 ∧ k ≤ 1
set_option maxHeartbeats 8000000 in
theorem t14 (V : okP P) (hs : s < 4) (hn : n ≤ 6) {h : abH} {Q : Option Value → abH → Prop} (H : KC h) (L : LD h P) (T : TL h P o) (B : SB h s n bb) (hQ : ∀ h' b, Fr hfS hfT h h' → gI h' 42 4 = nI n → hgF P o bb n none (rws n) = some b → (∀ k, k < n → gI h' 44 k = nI (lyL P o bb (gf b) n k)) → Q (some (.int (nI (lyT P o bb (gf b) n)))) h') : aM (d + 16) 14 [.ref 42, .ref 29, .ref (57 + 2 * s)] h Q := by
  have H1 : KC (pR h 42 0 (.ref 29)) := KC_pR H (by decide)
  have H2 : KC (pR (pR h 42 0 (.ref 29)) 42 1 (.ref (57 + 2 * s))) := KC_pR H1 (by decide)
  have r1 : gR (pR (pR h 42 0 (.ref 29)) 42 1 (.ref (57 + 2 * s))) 42 1 = .ref (57 + 2 * s) := by rw [gR_pR, if_pos ⟨rfl, rfl⟩]
  have r0 : gR (pR (pR h 42 0 (.ref 29)) 42 1 (.ref (57 + 2 * s))) 42 0 = .ref 29 := by rw [gR_pR, if_neg (by omega), gR_pR, if_pos ⟨rfl, rfl⟩]
  have b1 : gI (pR (pR h 42 0 (.ref 29)) 42 1 (.ref (57 + 2 * s))) (57 + 2 * s) 1 = nI n := B.1
  obtain ⟨A, hA⟩ : ∃ A, A = pI (pI (pR (pR h 42 0 (.ref 29)) 42 1 (.ref (57 + 2 * s))) 42 4 (nI n)) 42 2 2147483647 := ⟨_, rfl⟩
  have HA : KC A := by rw [hA]; exact H2
  have FA : Fr hfS hfT h A := by
    rw [hA]
    exact Fr_trans (Fr_trans (Fr_trans (Fr_pR ⟨rfl, by omega⟩) (Fr_pR ⟨rfl, by omega⟩)) (Fr_pI (Or.inr (Or.inr ⟨rfl, Or.inr rfl⟩)))) (Fr_pI (Or.inr (Or.inr ⟨rfl, Or.inl rfl⟩)))
  have eA : ∀ o k, ¬ (o = 43 ∨ o = 44 ∨ (o = 42 ∧ (k = 2 ∨ k = 4))) → gI A o k = gI h o k := fun o k q => FA.2.2 o k q
  have X : HX A P o s n bb := by
    refine ⟨HA, ⟨fun b hb => ?_, fun s' hs' => ?_⟩, ⟨fun k hk => ?_, fun b hb => ?_⟩, ⟨?_, ?_⟩, ⟨?_, fun i hi => ?_⟩⟩
    · rw [eA _ _ (by omega)]; exact L.1 b hb
    · rw [eA _ _ (by omega), eA _ _ (by omega)]; exact L.2 s' hs'
    · rw [eA _ _ (by omega), eA _ _ (by omega), eA _ _ (by omega)]; exact T.1 k hk
    · rw [eA _ _ (by omega), eA _ _ (by omega)]; exact T.2 b hb
    · rw [hA]; exact r0
    · rw [hA]; exact r1
    · rw [eA _ _ (by omega)]; exact B.1
    · rw [eA _ _ (by omega)]; exact B.2 i hi
  have I : hsI A P o bb n [] none := by
    refine ⟨fun j hj => (by cases hj), ?_, fun b hb => (by cases hb)⟩
    rw [hA, pI_def, gI_eq, upd_eq]
    exact u_lit
  have main := fun Q' => t15 (d := d + 12 - 2 * n) (P := P) (o := o) (bb := bb) V hs hn n (r := []) (best := none) (h := A) (Q := Q') (by simp) ⟨fun k hk => absurd hk (Nat.not_lt_zero _), cntB_0⟩ X I
  rw [show d + 12 - 2 * n + 2 * n + 3 = d + 15 by omega] at main
  have t0 := gt_42 H
  simp (disch := first | omega | assumption | exact gt_42 H | (simp only [gT_pA, gT_pI, gT_pR]; first | assumption | exact gt_42 H) | fail) only [s14_0, s14_1, s14_2, s14_6, s14_7, s14_10, s14_11, s14_12, s14_15, s14_18, s14_21, s14_22, s14_24, s14_27, s14_28, s14_29, s14_30, s14_31, s14_34, s14_35, s14_38, gt_42 H, am14, isRf_ref, true_and, and_true, aPs_s, aPs_n, b01_0, b01_1, nI_clamp, ix_nI, inb_nI, lt_nI, eq_nI, nn_nI, eq0_nI, pk_mul, nI_add, lt_T, lt_F, if_true, if_false, true_and, and_true, neg1_nI, neg1_lt, neg1_neg, lt_neg1, eqN_F, eq_self, ]
  rw [s14_5]
  simp (disch := first | omega | assumption | exact gt_42 H1 | (simp only [gT_pA, gT_pI, gT_pR]; first | assumption | exact gt_42 H1) | fail) only [s14_0, s14_1, s14_2, s14_5, s14_6, s14_7, s14_11, s14_12, s14_15, s14_18, s14_21, s14_22, s14_24, s14_27, s14_28, s14_29, s14_30, s14_31, s14_34, s14_35, s14_38, gt_42 H1, am14, isRf_ref, true_and, and_true, aPs_s, aPs_n, b01_0, b01_1, nI_clamp, ix_nI, inb_nI, lt_nI, eq_nI, nn_nI, eq0_nI, pk_mul, nI_add, lt_T, lt_F, if_true, if_false, true_and, and_true, neg1_nI, neg1_lt, neg1_neg, lt_neg1, eqN_F, eq_self, ]
  rw [s14_10]
  simp (disch := first | omega | assumption | exact gtS H2 hs | exact gt_42 H2 | (simp only [gT_pA, gT_pI, gT_pR]; first | assumption | exact gtS H2 hs | exact gt_42 H2) | fail) only [s14_0, s14_1, s14_2, s14_5, s14_6, s14_7, s14_10, s14_11, s14_12, s14_15, s14_18, s14_21, s14_22, s14_24, s14_27, s14_28, s14_29, s14_30, s14_31, s14_34, s14_35, s14_38, gtS H2 hs, gt_42 H2, am14, isRf_ref, true_and, and_true, aPs_s, aPs_n, b01_0, b01_1, nI_clamp, ix_nI, inb_nI, lt_nI, eq_nI, nn_nI, eq0_nI, pk_mul, nI_add, lt_T, lt_F, if_true, if_false, true_and, and_true, neg1_nI, neg1_lt, neg1_neg, lt_neg1, eqN_F, eq_self,  r1, b1]
  rw [← hA]
  refine main _ (fun h' F _ I' => ?_)
  rw [exF_rws] at I'
  obtain ⟨b, hb⟩ := hg_some (P := P) (o := o) (bb := bb) (n := n) hn
  rw [hb] at I'
  have H' := Fr_KC F (fun e _ q => q) HA
  have i2 : gI h' 42 2 = nI (lyT P o bb (gf b) n) := I'.2.1
  simp (disch := first | omega | assumption | exact gt_42 H' | (simp only [gT_pA, gT_pI, gT_pR]; first | assumption | exact gt_42 H') | fail) only [s14_0, s14_1, s14_2, s14_5, s14_6, s14_7, s14_10, s14_11, s14_12, s14_15, s14_18, s14_21, s14_22, s14_24, s14_27, s14_28, s14_29, s14_30, s14_31, s14_34, s14_35, s14_38, gt_42 H', am14, isRf_ref, true_and, and_true, aPs_s, aPs_n, b01_0, b01_1, nI_clamp, ix_nI, inb_nI, lt_nI, eq_nI, nn_nI, eq0_nI, pk_mul, nI_add, lt_T, lt_F, if_true, if_false, true_and, and_true, neg1_nI, neg1_lt, neg1_neg, lt_neg1, eqN_F, eq_self,  i2]
  refine hQ h' b (Fr_trans FA (Fr_mono F (fun o k q => by unfold hsS at q; unfold hfS; omega) (fun _ _ q => absurd q id))) ?_ hb (I'.2.2 b rfl).2
  rw [F.2.2 42 4 (by unfold hsS; omega), hA, pI_def, gI_eq, upd_ne (by decide), pI_def, gI_eq, upd_eq]
end C17
