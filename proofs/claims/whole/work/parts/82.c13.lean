/-! THE CLASS: a PAIR -/
theorem tkA_ge {P : Nat → Nat → Int32} {o : Nat → Nat} {k : Nat} : ∀ {n : Nat}, k ≤ n → tkA P o k ≤ tkA P o n := by
  intro n hn
  obtain ⟨j, rfl⟩ := Nat.exists_eq_add_of_le hn
  clear hn
  induction j with
  | zero => exact Nat.le_refl _
  | succ j ih => exact Nat.le_trans ih tkA_mono
theorem hdA_at {P : Nat → Nat → Int32} {o : Nat → Nat} {k t : Nat} (h1 : tkA P o k ≤ t) (h2 : t < tkA P o (k + 1)) : ∀ {n : Nat}, k < n → hdA P o n t = zLd P o k := by
  intro n
  induction n with
  | zero => intro h; omega
  | succ n ih =>
    intro h
    rw [hdA]
    by_cases e : k = n
    · subst e
      rw [if_pos h1]
    · have := tkA_ge (P := P) (o := o) (k := k + 1) (n := n) (by omega)
      rw [if_neg (by omega)]
      exact ih (by omega)
theorem hdA_ex {P : Nat → Nat → Int32} {o : Nat → Nat} {t : Nat} : ∀ {n : Nat}, t < tkA P o n → ∃ k, k < n ∧ tkA P o k ≤ t ∧ t < tkA P o (k + 1) := by
  intro n
  induction n with
  | zero => intro h; rw [tkA] at h; omega
  | succ n ih =>
    intro h
    by_cases h1 : t < tkA P o n
    · obtain ⟨k, k1, k2⟩ := ih h1
      exact ⟨k, by omega, k2⟩
    · exact ⟨n, by omega, by omega, h⟩
/-- the most that the second run holds in the ticks of a place -/
def ovl (P : Nat → Nat → Int32) (o : Nat → Nat) (ph k j : Nat) : Bool := decide ((if tkA P o k < tkA P o j + ph then tkA P o j + ph else tkA P o k) < (if tkA P o (j + 1) + ph < tkA P o (k + 1) then tkA P o (j + 1) + ph else tkA P o (k + 1)))
theorem ovl_iff {P : Nat → Nat → Int32} {o : Nat → Nat} {ph k j : Nat} : ovl P o ph k j = true ↔ ∃ t, tkA P o k ≤ t ∧ t < tkA P o (k + 1) ∧ tkA P o j + ph ≤ t ∧ t < tkA P o (j + 1) + ph := by
  unfold ovl
  rw [decide_eq_true_iff]
  constructor
  · intro h
    by_cases h1 : tkA P o k < tkA P o j + ph
    · rw [if_pos h1] at h
      refine ⟨tkA P o j + ph, by omega, ?_, Nat.le_refl _, ?_⟩ <;> split at h <;> omega
    · rw [if_neg h1] at h
      refine ⟨tkA P o k, Nat.le_refl _, ?_, by omega, ?_⟩ <;> split at h <;> omega
  · rintro ⟨t, h1, h2, h3, h4⟩
    split <;> split <;> omega
def mbN (P : Nat → Nat → Int32) (o : Nat → Nat) (ph k : Nat) : Nat → Nat
  | 0 => 0
  | j + 1 => if ovl P o ph k j = true then (if mbN P o ph k j < zLd P o j then zLd P o j else mbN P o ph k j) else mbN P o ph k j
def tgN (P : Nat → Nat → Int32) (o : Nat → Nat) (ph : Nat) : Nat → Nat
  | 0 => 0
  | k + 1 => if tkA P o k < tkA P o (k + 1) then (if tgN P o ph k < zLd P o k + mbN P o ph k (nS P) then zLd P o k + mbN P o ph k (nS P) else tgN P o ph k) else tgN P o ph k
theorem mbN_ge {P : Nat → Nat → Int32} {o : Nat → Nat} {ph k j : Nat} (h : ovl P o ph k j = true) : ∀ {n : Nat}, j < n → zLd P o j ≤ mbN P o ph k n := by
  intro n
  induction n with
  | zero => intro hj; omega
  | succ n ih =>
    intro hj
    rw [mbN]
    by_cases e : j = n
    · subst e
      rw [if_pos h]
      split <;> omega
    · have := ih (by omega)
      split
      · split <;> omega
      · exact this
theorem mbN_at {P : Nat → Nat → Int32} {o : Nat → Nat} {ph k : Nat} : ∀ {n : Nat}, mbN P o ph k n = 0 ∨ ∃ j, j < n ∧ ovl P o ph k j = true ∧ mbN P o ph k n = zLd P o j := by
  intro n
  induction n with
  | zero => exact Or.inl rfl
  | succ n ih =>
    rw [mbN]
    split
    · rename_i h
      split
      · exact Or.inr ⟨n, by omega, h, rfl⟩
      · rcases ih with e | ⟨j, j1, j2⟩
        · exact Or.inl e
        · exact Or.inr ⟨j, by omega, j2⟩
    · rcases ih with e | ⟨j, j1, j2⟩
      · exact Or.inl e
      · exact Or.inr ⟨j, by omega, j2⟩
theorem tgN_ge {P : Nat → Nat → Int32} {o : Nat → Nat} {ph k : Nat} (h : tkA P o k < tkA P o (k + 1)) : ∀ {n : Nat}, k < n → zLd P o k + mbN P o ph k (nS P) ≤ tgN P o ph n := by
  intro n
  induction n with
  | zero => intro hj; omega
  | succ n ih =>
    intro hj
    rw [tgN]
    by_cases e : k = n
    · subst e
      rw [if_pos h]
      split <;> omega
    · have := ih (by omega)
      split
      · split <;> omega
      · exact this
theorem tgN_at {P : Nat → Nat → Int32} {o : Nat → Nat} {ph : Nat} : ∀ {n : Nat}, tgN P o ph n = 0 ∨ ∃ k, k < n ∧ tkA P o k < tkA P o (k + 1) ∧ tgN P o ph n = zLd P o k + mbN P o ph k (nS P) := by
  intro n
  induction n with
  | zero => exact Or.inl rfl
  | succ n ih =>
    rw [tgN]
    split
    · rename_i h
      split
      · exact Or.inr ⟨n, by omega, h, rfl⟩
      · rcases ih with e | ⟨j, j1, j2⟩
        · exact Or.inl e
        · exact Or.inr ⟨j, by omega, j2⟩
    · rcases ih with e | ⟨j, j1, j2⟩
      · exact Or.inl e
      · exact Or.inr ⟨j, by omega, j2⟩
theorem pbM_ge {T : Nat} {hd : Nat → Nat} {ph t : Nat} : ∀ {n : Nat}, t < n → pbS T hd ph t ≤ pbM T hd ph n := by
  intro n
  induction n with
  | zero => intro h; omega
  | succ n ih =>
    intro h
    rw [pbM]
    by_cases e : t = n
    · subst e; split <;> omega
    · have := ih (by omega)
      split <;> omega
theorem pbM_at {T : Nat} {hd : Nat → Nat} {ph : Nat} : ∀ {n : Nat}, pbM T hd ph n = 0 ∨ ∃ t, t < n ∧ pbM T hd ph n = pbS T hd ph t := by
  intro n
  induction n with
  | zero => exact Or.inl rfl
  | succ n ih =>
    rw [pbM]
    split
    · exact Or.inr ⟨n, by omega, rfl⟩
    · rcases ih with e | ⟨t, t1, t2⟩
      · exact Or.inl e
      · exact Or.inr ⟨t, by omega, t2⟩
/-- place by place is as tick by tick -/
theorem tg_pb {P : Nat → Nat → Int32} {o : Nat → Nat} {ph : Nat} : tgN P o ph (nS P) = aPr P o ph := by
  unfold aPr pbR
  apply Nat.le_antisymm
  · rcases tgN_at (P := P) (o := o) (ph := ph) (n := nS P) with e | ⟨k, k1, k2, e⟩
    · rw [e]; exact Nat.zero_le _
    · rw [e]
      have kT := tkA_ge (P := P) (o := o) (k := k + 1) (n := nS P) (by omega)
      rcases mbN_at (P := P) (o := o) (ph := ph) (k := k) (n := nS P) with e2 | ⟨j, j1, j2, e2⟩
      · have h := pbM_ge (T := tkA P o (nS P)) (hd := hdA P o (nS P)) (ph := ph) (t := tkA P o k) (n := tkA P o (nS P) + ph) (by omega)
        have h3 : zLd P o k ≤ pbS (tkA P o (nS P)) (hdA P o (nS P)) ph (tkA P o k) := by
          unfold pbS
          rw [if_pos (by omega), hdA_at (Nat.le_refl _) k2 k1]
          omega
        omega
      · obtain ⟨t, t1, t2, t3, t4⟩ := ovl_iff.mp j2
        have h := pbM_ge (T := tkA P o (nS P)) (hd := hdA P o (nS P)) (ph := ph) (t := t) (n := tkA P o (nS P) + ph) (by omega)
        have h3 : zLd P o k + zLd P o j = pbS (tkA P o (nS P)) (hdA P o (nS P)) ph t := by
          unfold pbS
          rw [if_pos (by omega), if_neg (by omega), hdA_at t1 t2 k1, hdA_at (t := t - ph) (by omega) (by omega) j1]
        omega
  · rcases pbM_at (T := tkA P o (nS P)) (hd := hdA P o (nS P)) (ph := ph) (n := tkA P o (nS P) + ph) with e | ⟨t, t1, e⟩
    · rw [e]; exact Nat.zero_le _
    · rw [e]
      unfold pbS
      by_cases h1 : t < tkA P o (nS P)
      · obtain ⟨k, k1, k2, k3⟩ := hdA_ex h1
        have hk := tgN_ge (P := P) (o := o) (ph := ph) (k := k) (by omega) (n := nS P) k1
        rw [if_pos h1, hdA_at k2 k3 k1]
        by_cases h2 : t < ph
        · rw [if_pos h2]
          omega
        · obtain ⟨j, j1, j2, j3⟩ := hdA_ex (P := P) (o := o) (t := t - ph) (n := nS P) (by omega)
          have hj := mbN_ge (P := P) (o := o) (ph := ph) (k := k) (j := j) (ovl_iff.mpr ⟨t, k2, k3, by omega, by omega⟩) (n := nS P) j1
          rw [if_neg h2, hdA_at j2 j3 j1]
          omega
      · rw [if_neg h1]
        by_cases h2 : t < ph
        · rw [if_pos h2]
          exact Nat.zero_le _
        · obtain ⟨j, j1, j2, j3⟩ := hdA_ex (P := P) (o := o) (t := t - ph) (n := nS P) (by omega)
          have hj := tgN_ge (P := P) (o := o) (ph := ph) (k := j) (by omega) (n := nS P) j1
          rw [if_neg h2, hdA_at j2 j3 j1]
          omega
theorem mbN_le {P : Nat → Nat → Int32} (V : okP P) {o : Nat → Nat} (O : ordV P o) {ph k : Nat} : ∀ {n : Nat}, n ≤ nS P → mbN P o ph k n ≤ 666468 := by
  intro n hn
  rcases mbN_at (P := P) (o := o) (ph := ph) (k := k) (n := n) with e | ⟨j, j1, _, e⟩
  · rw [e]; exact Nat.zero_le _
  · rw [e]; exact zLd_le V (O j (by omega)).1
theorem tgN_le {P : Nat → Nat → Int32} (V : okP P) {o : Nat → Nat} (O : ordV P o) {ph : Nat} : ∀ {n : Nat}, n ≤ nS P → tgN P o ph n ≤ 1332936 := by
  intro n hn
  rcases tgN_at (P := P) (o := o) (ph := ph) (n := n) with e | ⟨j, j1, _, e⟩
  · rw [e]; exact Nat.zero_le _
  · rw [e]
    have := zLd_le V (O j (by omega)).1
    have := mbN_le V O (ph := ph) (k := j) (Nat.le_refl (nS P))
    omega
section C13
variable {d p : Nat} {h : abH} {Q : Option Value → abH → Prop}
def spX (h : abH) (P : Nat → Nat → Int32) (o : Nat → Nat) (k : Nat) : abH := pA (pA (pR h 47 0 (.ref 29)) 48 (pre (fun k => nI (tkA P o k)) k (gI h 48))) 49 (pre (fun k => nI (tkA P o (k + 1))) k (gI h 49))
theorem KC_47 {v : Value} (H : KC h) : KC (pR h 47 0 v) := KC_pR H (by decide)
/-- what a heap shows of a run, spread -/
def PH (h : abH) (P : Nat → Nat → Int32) (o : Nat → Nat) : Prop := gR h 47 0 = .ref 29 ∧ ∀ k, k < nS P → gI h 48 k = nI (tkA P o k) ∧ gI h 49 k = nI (tkA P o (k + 1))
set_option maxHeartbeats 8000000 in
theorem c38 (H : KC h) (hp : p = 5 ∨ p = 17) {P : Nat → Nat → Int32} (V : okP P) (T : TH h p P) {o : Nat → Nat} (O : ordV P o) (L : TL h P o) : aM (d + 2) 38 [.ref 47, .ref 29] h Q = Q none (spX h P o (nS P)) := by
  obtain ⟨C, r29⟩ := T
  have s10 := V.s.1
  have HMa : ∀ k, KC (spX h P o k) := fun k => KC_47 H
  have r47 : ∀ k, gR (spX h P o k) 47 0 = .ref 29 := fun k => by
    show gR (pR h 47 0 (.ref 29)) 47 0 = .ref 29
    rw [gR_pR, if_pos ⟨rfl, rfl⟩]
  have r3 : ∀ k, gR (spX h P o k) 29 1 = .ref p := fun k => by
    show gR (pR h 47 0 (.ref 29)) 29 1 = .ref p
    rw [gR_pR, if_neg (by omega)]
    exact r29
  have CX : ∀ k, CP (spX h P o k) p P := fun k => CPg_of (fun q j h1 h2 => by unfold spX; rw [gI_ne (by omega), gI_ne (by omega)]; rfl) C
  have loop := for_0 (F := fun k => aW (d + 2) 38 9 [.ref 47, .ref 29, .int (nI (tkA P o k)), .int (nI k)] [] (spX h P o k) Q) (R := Q none (spX h P o (nS P))) (nS P) (by
    have e4 := (CX (nS P)).s
    have a1 := r47 (nS P)
    have a2 := r3 (nS P)
    rw [s38_9]
    simp (disch := first | omega | assumption | exact gtP (HMa _) hp | exact gt_29 (HMa _) | exact gt_47 (HMa _) | (simp only [gT_pA, gT_pI, gT_pR]; first | assumption | exact gtP (HMa _) hp | exact gt_29 (HMa _) | exact gt_47 (HMa _)) | fail) only [s38_0, s38_1, s38_2, s38_5, s38_6, s38_7, s38_8, s38_10, s38_11, s38_14, s38_17, s38_20, s38_23, s38_24, s38_27, s38_28, s38_29, s38_30, s38_33, s38_34, s38_35, s38_38, s38_41, s38_42, s38_45, s38_48, s38_49, s38_50, s38_53, s38_54, s38_57, s38_58, s38_59, s38_62, s38_63, s38_64, s38_65, s38_68, s38_71, ai_34 (HMa _), aj_48 (HMa _), aj_49 (HMa _), gr_29_4 (HMa _), gr_47_1 (HMa _), gr_47_2 (HMa _), gtP (HMa _) hp, gt_29 (HMa _), gt_47 (HMa _), am38, isRf_ref, true_and, and_true, aPs_s, aPs_n, b01_0, b01_1, nI_clamp, ix_nI, inb_nI, lt_nI, eq_nI, nn_nI, eq0_nI, pk_mul, nI_add, lt_T, lt_F, if_true, if_false, true_and, and_true, neg1_nI, neg1_lt, neg1_neg, lt_neg1, eqN_F, eq_self,  a1, a2, e4, Nat.lt_irrefl]) (fun k hk => by
    have e4 := (CX k).s
    have a1 := r47 k
    have a2 := r3 k
    have k10 : k < 10 := by omega
    have ht := tkA_le (P := P) (o := o) (k := k)
    have ht1 := tkA_le (P := P) (o := o) (k := k + 1)
    have w1 : pI (spX h P o k) 48 k (nI (tkA P o k)) = pA (pA (pR h 47 0 (.ref 29)) 48 (pre (fun k => nI (tkA P o k)) (k + 1) (gI h 48))) 49 (pre (fun k => nI (tkA P o (k + 1))) k (gI h 49)) := by
      unfold spX
      rw [pI_def, gI_ne (by decide), gI_eq, pre_upd (g := fun k => nI (tkA P o k)), pA_sw (by decide), pA_pA]
    generalize hX : pA (pA (pR h 47 0 (.ref 29)) 48 (pre (fun k => nI (tkA P o k)) (k + 1) (gI h 48))) 49 (pre (fun k => nI (tkA P o (k + 1))) k (gI h 49)) = X at w1
    have HX : KC X := by rw [← hX]; exact KC_47 H
    have x1 : gR X 47 0 = .ref 29 := by rw [← hX]; exact r47 k
    have x2 : gR X 29 1 = .ref p := by rw [← hX]; exact r3 k
    have CX2 : CP X p P := by
      rw [← hX]
      exact CPg_of (fun q j h1 h2 => by rw [gI_ne (by omega), gI_ne (by omega)]; rfl) C
    have x34 : gI X 34 k = nI (o k) := by rw [← hX]; exact (L.1 k hk).1
    have o2 := (O k hk).1
    have hz := (zT_le V o2).2
    have c52' : ∀ Q', aM (d + 1) 52 [.ref p, .int (nI (o k))] X Q' = Q' (some (.int (nI (zT P (o k))))) X := fun Q' => c52 HX hp CX2 V o2
    have em := iMin_nI (a := 400) (b := tkA P o k + zT P (o k)) (by decide) (by omega)
    have e9 : (if tkA P o k + zT P (o k) < 400 then tkA P o k + zT P (o k) else 400) = tkA P o (k + 1) := by rw [tkA]; split <;> omega
    rw [e9] at em
    have w2 : pI X 49 k (nI (tkA P o (k + 1))) = spX h P o (k + 1) := by
      rw [← hX]
      exact pre_pI (h := pA (pR h 47 0 (.ref 29)) 48 (pre (fun k => nI (tkA P o k)) (k + 1) (gI h 48))) (o := 49) (X := fun k => nI (tkA P o (k + 1))) (k := k) (G := gI h 49) rfl
    rw [s38_9]
    simp (disch := first | omega | assumption | exact gtP (HMa _) hp | exact gt_29 (HMa _) | exact gt_47 (HMa _) | (simp only [gT_pA, gT_pI, gT_pR]; first | assumption | exact gtP (HMa _) hp | exact gt_29 (HMa _) | exact gt_47 (HMa _)) | fail) only [s38_0, s38_1, s38_2, s38_5, s38_6, s38_7, s38_8, s38_10, s38_11, s38_14, s38_17, s38_20, s38_23, s38_24, s38_27, s38_28, s38_29, s38_33, s38_34, s38_35, s38_38, s38_41, s38_42, s38_45, s38_48, s38_49, s38_50, s38_53, s38_54, s38_57, s38_58, s38_59, s38_62, s38_63, s38_64, s38_65, s38_68, s38_71, ai_34 (HMa _), aj_48 (HMa _), aj_49 (HMa _), gr_29_4 (HMa _), gr_47_1 (HMa _), gr_47_2 (HMa _), gtP (HMa _) hp, gt_29 (HMa _), gt_47 (HMa _), am38, isRf_ref, true_and, and_true, aPs_s, aPs_n, b01_0, b01_1, nI_clamp, ix_nI, inb_nI, lt_nI, eq_nI, nn_nI, eq0_nI, pk_mul, nI_add, lt_T, lt_F, if_true, if_false, true_and, and_true, neg1_nI, neg1_lt, neg1_neg, lt_neg1, eqN_F, eq_self,  a1, a2, e4, hk, k10, w1]
    rw [s38_30]
    simp (disch := first | omega | assumption | exact gtP HX hp | exact gt_29 HX | exact gt_47 HX | (simp only [gT_pA, gT_pI, gT_pR]; first | assumption | exact gtP HX hp | exact gt_29 HX | exact gt_47 HX) | fail) only [s38_0, s38_1, s38_2, s38_5, s38_6, s38_7, s38_8, s38_10, s38_11, s38_14, s38_17, s38_20, s38_23, s38_24, s38_27, s38_28, s38_29, s38_30, s38_33, s38_34, s38_35, s38_38, s38_41, s38_42, s38_45, s38_48, s38_49, s38_50, s38_53, s38_54, s38_57, s38_58, s38_59, s38_62, s38_63, s38_64, s38_65, s38_68, s38_71, ai_34 HX, aj_48 HX, aj_49 HX, gr_29_4 HX, gr_47_1 HX, gr_47_2 HX, gtP HX hp, gt_29 HX, gt_47 HX, am38, isRf_ref, true_and, and_true, aPs_s, aPs_n, b01_0, b01_1, nI_clamp, ix_nI, inb_nI, lt_nI, eq_nI, nn_nI, eq0_nI, pk_mul, nI_add, lt_T, lt_F, if_true, if_false, true_and, and_true, neg1_nI, neg1_lt, neg1_neg, lt_neg1, eqN_F, eq_self,  x1, x2, x34, k10, c52', em, w2])
  have e0 : pR h 47 0 (.ref 29) = spX h P o 0 := by
    unfold spX
    rw [pre_0, pre_0]
    generalize hX : pR h 47 0 (.ref 29) = X
    have x1 : gI h 48 = gI X 48 := by rw [← hX]; rfl
    have x2 : gI h 49 = gI X 49 := by rw [← hX]; rfl
    rw [x1, pA_self, x2, pA_self]
  simp (disch := first | omega | assumption | exact gtP H hp | exact gt_29 H | exact gt_47 H | (simp only [gT_pA, gT_pI, gT_pR]; first | assumption | exact gtP H hp | exact gt_29 H | exact gt_47 H) | fail) only [s38_0, s38_1, s38_2, s38_5, s38_6, s38_7, s38_8, s38_10, s38_11, s38_14, s38_17, s38_20, s38_23, s38_24, s38_27, s38_28, s38_29, s38_30, s38_33, s38_34, s38_35, s38_38, s38_41, s38_42, s38_45, s38_48, s38_49, s38_50, s38_53, s38_54, s38_57, s38_58, s38_59, s38_62, s38_63, s38_64, s38_65, s38_68, s38_71, ai_34 H, aj_48 H, aj_49 H, gr_29_4 H, gr_47_1 H, gr_47_2 H, gtP H hp, gt_29 H, gt_47 H, am38, isRf_ref, true_and, and_true, aPs_s, aPs_n, b01_0, b01_1, nI_clamp, ix_nI, inb_nI, lt_nI, eq_nI, nn_nI, eq0_nI, pk_mul, nI_add, lt_T, lt_F, if_true, if_false, true_and, and_true, neg1_nI, neg1_lt, neg1_neg, lt_neg1, eqN_F, eq_self,  e0]
  exact loop
theorem spX_PH {P : Nat → Nat → Int32} {o : Nat → Nat} : PH (spX h P o (nS P)) P o := by
  refine ⟨?_, fun k hk => ⟨?_, ?_⟩⟩
  · show gR (pR h 47 0 (.ref 29)) 47 0 = .ref 29
    rw [gR_pR, if_pos ⟨rfl, rfl⟩]
  · exact pre_in (g := fun k => nI (tkA P o k)) (f := gI h 48) hk
  · exact pre_in (g := fun k => nI (tkA P o (k + 1))) (f := gI h 49) hk
set_option maxHeartbeats 8000000 in
theorem c40 (H : KC h) (hp : p = 5 ∨ p = 17) {P : Nat → Nat → Int32} (V : okP P) (T : TH h p P) {o : Nat → Nat} (O : ordV P o) (L : TL h P o) (R : PH h P o) {k ph : Nat} (hk : k < nS P) (hph : ph ≤ 400) : aM (d + 1) 40 [.ref 47, .int (nI k), .int (nI ph)] h Q = Q (some (.int (nI (mbN P o ph k (nS P))))) h := by
  obtain ⟨C, r29⟩ := T
  obtain ⟨r47, R⟩ := R
  have s10 := V.s.1
  have e4 := C.s
  have k10 : k < 10 := by omega
  obtain ⟨k1, k2⟩ := R k hk
  have ht := tkA_le (P := P) (o := o) (k := k)
  have ht1 := tkA_le (P := P) (o := o) (k := k + 1)
  have loop := for_ds (σ := Value) (F := fun j x => aW (d + 1) 40 5 [.ref 47, .int (nI k), .int (nI ph), .int (nI (mbN P o ph k j)), .int (nI j), x] [] h Q) (R := fun _ => Q (some (.int (nI (mbN P o ph k (nS P))))) h) (nS P) (fun x => by
    rw [s40_5]
    simp (disch := first | omega | assumption | exact gtP H hp | exact gt_29 H | exact gt_47 H | (simp only [gT_pA, gT_pI, gT_pR]; first | assumption | exact gtP H hp | exact gt_29 H | exact gt_47 H) | fail) only [s40_0, s40_1, s40_2, s40_3, s40_7, s40_8, s40_11, s40_14, s40_17, s40_20, s40_21, s40_24, s40_25, s40_26, s40_27, s40_30, s40_32, s40_33, s40_34, s40_35, s40_38, s40_40, s40_42, s40_43, s40_46, s40_47, s40_48, s40_49, s40_52, s40_54, s40_55, s40_56, s40_57, s40_60, s40_63, s40_64, s40_65, s40_68, s40_71, s40_73, s40_74, s40_77, s40_78, s40_81, s40_84, s40_85, ai_36 H, ai_48 H, ai_49 H, gr_29_6 H, gr_47_1 H, gr_47_2 H, gtP H hp, gt_29 H, gt_47 H, am40, isRf_ref, true_and, and_true, aPs_s, aPs_n, b01_0, b01_1, nI_clamp, ix_nI, inb_nI, lt_nI, eq_nI, nn_nI, eq0_nI, pk_mul, nI_add, lt_T, lt_F, if_true, if_false, true_and, and_true, neg1_nI, neg1_lt, neg1_neg, lt_neg1, eqN_F, eq_self,  r47, r29, e4, Nat.lt_irrefl]) (fun j hj ih x => by
    have j10 : j < 10 := by omega
    obtain ⟨j1, j2⟩ := R j hj
    have hu := tkA_le (P := P) (o := o) (k := j)
    have hu1 := tkA_le (P := P) (o := o) (k := j + 1)
    have l1 := (L.1 j hj).2.2
    have z1 := zLd_le V (O j hj).1
    have mb := mbN_le V O (ph := ph) (k := k) (n := j) (by omega)
    have e1 := iMax_nI (a := tkA P o k) (b := tkA P o j + ph) (by omega) (by omega)
    have e2 := iMin_nI (a := tkA P o (k + 1)) (b := tkA P o (j + 1) + ph) (by omega) (by omega)
    have e3 := iMax_nI (a := mbN P o ph k j) (b := zLd P o j) (by omega) (by omega)
    have b1 : (if tkA P o k < tkA P o j + ph then tkA P o j + ph else tkA P o k) < 2 ^ 31 := by split <;> omega
    have b2 : (if tkA P o (j + 1) + ph < tkA P o (k + 1) then tkA P o (j + 1) + ph else tkA P o (k + 1)) < 2 ^ 31 := by split <;> omega
    have lt := lt_nI b1 b2
    have ih' : ∀ x, aW (d + 1) 40 5 [.ref 47, .int (nI k), .int (nI ph), .int (nI (mbN P o ph k (j + 1))), .int (nI (j + 1)), x] [] h Q = Q (some (.int (nI (mbN P o ph k (nS P))))) h := ih
    rw [mbN] at ih'
    unfold ovl at ih'
    rw [s40_5]
    generalize hA : (if tkA P o k < tkA P o j + ph then tkA P o j + ph else tkA P o k) = A at *
    generalize hB : (if tkA P o (j + 1) + ph < tkA P o (k + 1) then tkA P o (j + 1) + ph else tkA P o (k + 1)) = B at *
    by_cases h1 : A < B
    · simp only [decide_eq_true h1, if_true] at ih'
      simp (disch := first | omega | assumption | exact gtP H hp | exact gt_29 H | exact gt_47 H | (simp only [gT_pA, gT_pI, gT_pR]; first | assumption | exact gtP H hp | exact gt_29 H | exact gt_47 H) | fail) only [s40_0, s40_1, s40_2, s40_3, s40_7, s40_8, s40_11, s40_14, s40_17, s40_20, s40_21, s40_24, s40_25, s40_26, s40_27, s40_30, s40_32, s40_33, s40_34, s40_35, s40_38, s40_40, s40_42, s40_43, s40_46, s40_47, s40_48, s40_49, s40_52, s40_54, s40_55, s40_56, s40_57, s40_60, s40_63, s40_64, s40_65, s40_68, s40_71, s40_73, s40_74, s40_77, s40_78, s40_81, s40_84, s40_85, ai_36 H, ai_48 H, ai_49 H, gr_29_6 H, gr_47_1 H, gr_47_2 H, gtP H hp, gt_29 H, gt_47 H, am40, isRf_ref, true_and, and_true, aPs_s, aPs_n, b01_0, b01_1, nI_clamp, ix_nI, inb_nI, lt_nI, eq_nI, nn_nI, eq0_nI, pk_mul, nI_add, lt_T, lt_F, if_true, if_false, true_and, and_true, neg1_nI, neg1_lt, neg1_neg, lt_neg1, eqN_F, eq_self,  r47, r29, e4, hj, k10, j10, k1, k2, j1, j2, e1, e2, h1, l1, e3, ih']
    · simp only [decide_eq_false h1, Bool.false_eq_true, if_false] at ih'
      simp (disch := first | omega | assumption | exact gtP H hp | exact gt_29 H | exact gt_47 H | (simp only [gT_pA, gT_pI, gT_pR]; first | assumption | exact gtP H hp | exact gt_29 H | exact gt_47 H) | fail) only [s40_0, s40_1, s40_2, s40_3, s40_7, s40_8, s40_11, s40_14, s40_17, s40_20, s40_21, s40_24, s40_25, s40_26, s40_27, s40_30, s40_32, s40_33, s40_34, s40_35, s40_38, s40_40, s40_42, s40_43, s40_46, s40_47, s40_48, s40_49, s40_52, s40_54, s40_55, s40_56, s40_57, s40_60, s40_63, s40_64, s40_65, s40_68, s40_71, s40_73, s40_74, s40_77, s40_78, s40_81, s40_84, s40_85, ai_36 H, ai_48 H, ai_49 H, gr_29_6 H, gr_47_1 H, gr_47_2 H, gtP H hp, gt_29 H, gt_47 H, am40, isRf_ref, true_and, and_true, aPs_s, aPs_n, b01_0, b01_1, nI_clamp, ix_nI, inb_nI, lt_nI, eq_nI, nn_nI, eq0_nI, pk_mul, nI_add, lt_T, lt_F, if_true, if_false, true_and, and_true, neg1_nI, neg1_lt, neg1_neg, lt_neg1, eqN_F, eq_self,  r47, r29, e4, hj, k10, j10, k1, k2, j1, j2, e1, e2, h1, ih'])
  simp (disch := first | omega | assumption | exact gtP H hp | exact gt_29 H | exact gt_47 H | (simp only [gT_pA, gT_pI, gT_pR]; first | assumption | exact gtP H hp | exact gt_29 H | exact gt_47 H) | fail) only [s40_0, s40_1, s40_2, s40_3, s40_7, s40_8, s40_11, s40_14, s40_17, s40_20, s40_21, s40_24, s40_25, s40_26, s40_27, s40_30, s40_32, s40_33, s40_34, s40_35, s40_38, s40_40, s40_42, s40_43, s40_46, s40_47, s40_48, s40_49, s40_52, s40_54, s40_55, s40_56, s40_57, s40_60, s40_63, s40_64, s40_65, s40_68, s40_71, s40_73, s40_74, s40_77, s40_78, s40_81, s40_84, s40_85, ai_36 H, ai_48 H, ai_49 H, gr_29_6 H, gr_47_1 H, gr_47_2 H, gtP H hp, gt_29 H, gt_47 H, am40, isRf_ref, true_and, and_true, aPs_s, aPs_n, b01_0, b01_1, nI_clamp, ix_nI, inb_nI, lt_nI, eq_nI, nn_nI, eq0_nI, pk_mul, nI_add, lt_T, lt_F, if_true, if_false, true_and, and_true, neg1_nI, neg1_lt, neg1_neg, lt_neg1, eqN_F, eq_self, ]
  exact loop 0 (Nat.zero_le _) _
set_option maxHeartbeats 8000000 in
theorem c39 (H : KC h) (hp : p = 5 ∨ p = 17) {P : Nat → Nat → Int32} (V : okP P) (T : TH h p P) {o : Nat → Nat} (O : ordV P o) (L : TL h P o) (R : PH h P o) {ph : Nat} (hph : ph ≤ 400) : aM (d + 2) 39 [.ref 47, .int (nI ph)] h Q = Q (some (.int (nI (aPr P o ph)))) h := by
  have r29 := T.2
  have s10 := V.s.1
  have e4 := T.1.s
  have r47 := R.1
  rw [← tg_pb]
  have loop := for_0 (F := fun k => aW (d + 2) 39 4 [.ref 47, .int (nI ph), .int (nI (tgN P o ph k)), .int (nI k)] [] h Q) (R := Q (some (.int (nI (tgN P o ph (nS P))))) h) (nS P) (by
    rw [s39_4]
    simp (disch := first | omega | assumption | exact gtP H hp | exact gt_29 H | exact gt_47 H | (simp only [gT_pA, gT_pI, gT_pR]; first | assumption | exact gtP H hp | exact gt_29 H | exact gt_47 H) | fail) only [s39_0, s39_1, s39_2, s39_3, s39_5, s39_6, s39_9, s39_12, s39_15, s39_18, s39_19, s39_22, s39_23, s39_24, s39_25, s39_28, s39_29, s39_30, s39_33, s39_34, s39_35, s39_38, s39_41, s39_42, s39_43, s39_44, s39_45, s39_46, s39_49, s39_50, s39_53, s39_54, s39_57, s39_60, s39_61, ai_36 H, ai_48 H, ai_49 H, gr_29_6 H, gr_47_1 H, gr_47_2 H, gtP H hp, gt_29 H, gt_47 H, am39, isRf_ref, true_and, and_true, aPs_s, aPs_n, b01_0, b01_1, nI_clamp, ix_nI, inb_nI, lt_nI, eq_nI, nn_nI, eq0_nI, pk_mul, nI_add, lt_T, lt_F, if_true, if_false, true_and, and_true, neg1_nI, neg1_lt, neg1_neg, lt_neg1, eqN_F, eq_self,  r47, r29, e4, Nat.lt_irrefl]) (fun k hk => by
    have k10 : k < 10 := by omega
    obtain ⟨k1, k2⟩ := R.2 k hk
    have ht := tkA_le (P := P) (o := o) (k := k)
    have ht1 := tkA_le (P := P) (o := o) (k := k + 1)
    have l1 := (L.1 k hk).2.2
    have z1 := zLd_le V (O k hk).1
    have mb := mbN_le V O (ph := ph) (k := k) (Nat.le_refl (nS P))
    have tg := tgN_le V O (ph := ph) (n := k) (by omega)
    have c40' : ∀ Q', aM (d + 1) 40 [.ref 47, .int (nI k), .int (nI ph)] h Q' = Q' (some (.int (nI (mbN P o ph k (nS P))))) h := fun Q' => c40 H hp V T O L R hk hph
    have e3 := iMax_nI (a := tgN P o ph k) (b := zLd P o k + mbN P o ph k (nS P)) (by omega) (by omega)
    rw [s39_4, tgN]
    by_cases h1 : tkA P o k < tkA P o (k + 1)
    · simp (disch := first | omega | assumption | exact gtP H hp | exact gt_29 H | exact gt_47 H | (simp only [gT_pA, gT_pI, gT_pR]; first | assumption | exact gtP H hp | exact gt_29 H | exact gt_47 H) | fail) only [s39_0, s39_1, s39_2, s39_3, s39_5, s39_6, s39_9, s39_12, s39_15, s39_18, s39_19, s39_22, s39_23, s39_24, s39_25, s39_28, s39_29, s39_30, s39_33, s39_34, s39_35, s39_38, s39_41, s39_42, s39_43, s39_44, s39_45, s39_46, s39_49, s39_50, s39_53, s39_54, s39_57, s39_60, s39_61, ai_36 H, ai_48 H, ai_49 H, gr_29_6 H, gr_47_1 H, gr_47_2 H, gtP H hp, gt_29 H, gt_47 H, am39, isRf_ref, true_and, and_true, aPs_s, aPs_n, b01_0, b01_1, nI_clamp, ix_nI, inb_nI, lt_nI, eq_nI, nn_nI, eq0_nI, pk_mul, nI_add, lt_T, lt_F, if_true, if_false, true_and, and_true, neg1_nI, neg1_lt, neg1_neg, lt_neg1, eqN_F, eq_self,  r47, r29, e4, hk, k10, k1, k2, h1, l1, c40', e3]
    · simp (disch := first | omega | assumption | exact gtP H hp | exact gt_29 H | exact gt_47 H | (simp only [gT_pA, gT_pI, gT_pR]; first | assumption | exact gtP H hp | exact gt_29 H | exact gt_47 H) | fail) only [s39_0, s39_1, s39_2, s39_3, s39_5, s39_6, s39_9, s39_12, s39_15, s39_18, s39_19, s39_22, s39_23, s39_24, s39_25, s39_28, s39_29, s39_30, s39_33, s39_34, s39_35, s39_38, s39_41, s39_42, s39_43, s39_44, s39_45, s39_46, s39_49, s39_50, s39_53, s39_54, s39_57, s39_60, s39_61, ai_36 H, ai_48 H, ai_49 H, gr_29_6 H, gr_47_1 H, gr_47_2 H, gtP H hp, gt_29 H, gt_47 H, am39, isRf_ref, true_and, and_true, aPs_s, aPs_n, b01_0, b01_1, nI_clamp, ix_nI, inb_nI, lt_nI, eq_nI, nn_nI, eq0_nI, pk_mul, nI_add, lt_T, lt_F, if_true, if_false, true_and, and_true, neg1_nI, neg1_lt, neg1_neg, lt_neg1, eqN_F, eq_self,  r47, r29, e4, hk, k10, k1, k2, h1])
  simp (disch := first | omega | assumption | exact gtP H hp | exact gt_29 H | exact gt_47 H | (simp only [gT_pA, gT_pI, gT_pR]; first | assumption | exact gtP H hp | exact gt_29 H | exact gt_47 H) | fail) only [s39_0, s39_1, s39_2, s39_3, s39_5, s39_6, s39_9, s39_12, s39_15, s39_18, s39_19, s39_22, s39_23, s39_24, s39_25, s39_28, s39_29, s39_30, s39_33, s39_34, s39_35, s39_38, s39_41, s39_42, s39_43, s39_44, s39_45, s39_46, s39_49, s39_50, s39_53, s39_54, s39_57, s39_60, s39_61, ai_36 H, ai_48 H, ai_49 H, gr_29_6 H, gr_47_1 H, gr_47_2 H, gtP H hp, gt_29 H, gt_47 H, am39, isRf_ref, true_and, and_true, aPs_s, aPs_n, b01_0, b01_1, nI_clamp, ix_nI, inb_nI, lt_nI, eq_nI, nn_nI, eq0_nI, pk_mul, nI_add, lt_T, lt_F, if_true, if_false, true_and, and_true, neg1_nI, neg1_lt, neg1_neg, lt_neg1, eqN_F, eq_self, ]
  exact loop
set_option maxHeartbeats 8000000 in
theorem c41 (H : KC h) (hp : p = 5 ∨ p = 17) {P : Nat → Nat → Int32} (V : okP P) (T : TH h p P) {o : Nat → Nat} (O : ordV P o) (L : TL h P o) (R : PH h P o) {m : Nat} (hm : m ≤ 400) : aM (d + 3) 41 [.ref 47, .int (nI m)] h Q = Q (some (.int (nI (bpF (aPr P o) m).1))) h := by
  have hb : ∀ q, aPr P o q ≤ 1332936 := fun q => by rw [← tg_pb]; exact tgN_le V O (Nat.le_refl _)
  have c39' : ∀ q, q ≤ 400 → ∀ Q', aM (d + 2) 39 [.ref 47, .int (nI q)] h Q' = Q' (some (.int (nI (aPr P o q)))) h := fun q hq Q' => c39 H hp V T O L R hq
  have loop := for_s (σ := Value) (F := fun q σ => aW (d + 3) 41 11 [.ref 47, .int (nI m), .int (nI (bpF (aPr P o) q).1), .int (nI (bpF (aPr P o) q).2), .int (nI (q + 1)), σ] [] h Q) (R := Q (some (.int (nI (bpF (aPr P o) m).1))) h) m (fun σ => by
    have h1 : m < m + 1 := by omega
    rw [s41_11]
    simp (disch := first | omega | assumption | exact gt_47 H | (simp only [gT_pA, gT_pI, gT_pR]; first | assumption | exact gt_47 H) | fail) only [s41_0, s41_1, s41_2, s41_3, s41_4, s41_7, s41_8, s41_9, s41_13, s41_14, s41_17, s41_18, s41_20, s41_23, s41_25, s41_27, s41_28, s41_31, s41_33, s41_34, s41_36, s41_37, s41_40, s41_43, s41_44, gt_47 H, am41, isRf_ref, true_and, and_true, aPs_s, aPs_n, b01_0, b01_1, nI_clamp, ix_nI, inb_nI, lt_nI, eq_nI, nn_nI, eq0_nI, pk_mul, nI_add, lt_T, lt_F, if_true, if_false, true_and, and_true, neg1_nI, neg1_lt, neg1_neg, lt_neg1, eqN_F, eq_self,  h1]) (fun q hq σ => by
    have h1 : ¬ m < q + 1 := by omega
    have q4 : q + 1 ≤ 400 := by omega
    have b1 := bpF_le hb (m := q)
    have b2 := hb (q + 1)
    refine ⟨.int (nI (aPr P o (q + 1))), ?_⟩
    rw [s41_11, bpF]
    by_cases h2 : aPr P o (q + 1) < (bpF (aPr P o) q).2
    · simp (disch := first | omega | assumption | exact gt_47 H | (simp only [gT_pA, gT_pI, gT_pR]; first | assumption | exact gt_47 H) | fail) only [s41_0, s41_1, s41_2, s41_3, s41_4, s41_7, s41_8, s41_9, s41_13, s41_14, s41_17, s41_18, s41_20, s41_23, s41_25, s41_27, s41_28, s41_31, s41_33, s41_34, s41_36, s41_37, s41_40, s41_43, s41_44, gt_47 H, am41, isRf_ref, true_and, and_true, aPs_s, aPs_n, b01_0, b01_1, nI_clamp, ix_nI, inb_nI, lt_nI, eq_nI, nn_nI, eq0_nI, pk_mul, nI_add, lt_T, lt_F, if_true, if_false, true_and, and_true, neg1_nI, neg1_lt, neg1_neg, lt_neg1, eqN_F, eq_self,  h1, c39', q4, h2]
    · simp (disch := first | omega | assumption | exact gt_47 H | (simp only [gT_pA, gT_pI, gT_pR]; first | assumption | exact gt_47 H) | fail) only [s41_0, s41_1, s41_2, s41_3, s41_4, s41_7, s41_8, s41_9, s41_13, s41_14, s41_17, s41_18, s41_20, s41_23, s41_25, s41_27, s41_28, s41_31, s41_33, s41_34, s41_36, s41_37, s41_40, s41_43, s41_44, gt_47 H, am41, isRf_ref, true_and, and_true, aPs_s, aPs_n, b01_0, b01_1, nI_clamp, ix_nI, inb_nI, lt_nI, eq_nI, nn_nI, eq0_nI, pk_mul, nI_add, lt_T, lt_F, if_true, if_false, true_and, and_true, neg1_nI, neg1_lt, neg1_neg, lt_neg1, eqN_F, eq_self,  h1, c39', q4, h2])
  simp (disch := first | omega | assumption | exact gt_47 H | (simp only [gT_pA, gT_pI, gT_pR]; first | assumption | exact gt_47 H) | fail) only [s41_0, s41_1, s41_2, s41_3, s41_4, s41_7, s41_8, s41_9, s41_13, s41_14, s41_17, s41_18, s41_20, s41_23, s41_25, s41_27, s41_28, s41_31, s41_33, s41_34, s41_36, s41_37, s41_40, s41_43, s41_44, gt_47 H, am41, isRf_ref, true_and, and_true, aPs_s, aPs_n, b01_0, b01_1, nI_clamp, ix_nI, inb_nI, lt_nI, eq_nI, nn_nI, eq0_nI, pk_mul, nI_add, lt_T, lt_F, if_true, if_false, true_and, and_true, neg1_nI, neg1_lt, neg1_neg, lt_neg1, eqN_F, eq_self,  c39']
  exact loop 0 (Nat.zero_le _) _
end C13
