/-! THE LAW: its start, and its whole -/
theorem mk_0 {B : abH} {n0 : Nat} : mkH B n0 n0 [] [] [] = B := by
  unfold mkH
  refine Prod.ext ?_ (Prod.ext ?_ ?_)
  · exact List.append_nil _
  · funext o k
    exact if_neg (by omega)
  · funext o k
    exact if_neg (by omega)
theorem mk_1 {B : abH} {n0 t z : Nat} (hB : B.1.length = n0) : nO B t z = mkH B n0 (n0 + 1) [(t, z)] [] [] := by
  have := mk_nO (B := B) (n0 := n0) (n := n0) (t := t) (z := z) (ts := []) (iw := []) (rw := []) hB rfl rfl rfl
  rw [mk_0] at this
  exact this
theorem lkI_nB {o k m : Nat} : ∀ {l : List (Nat × Nat × Int32)}, l.all (fun e => decide (e.1 ≠ o ∨ e.2.1 < m)) = true → m ≤ k → lkI l o k = 0 := by
  intro l
  induction l with
  | nil => intro _ _; rfl
  | cons a l ih =>
    intro h hk
    obtain ⟨a1, a2, a3⟩ := a
    have h := List.all_eq_true.mp h
    have h1 := of_decide_eq_true (h _ List.mem_cons_self)
    rw [lkI, if_neg (fun q => by
      have q1 := q.1
      have q2 := q.2
      simp only at h1
      omega)]
    exact ih (List.all_eq_true.mpr (fun e he => h e (List.mem_cons_of_mem _ he))) hk
def rfB (v : Value) (n : Nat) : Bool := match v with
  | .ref m => decide (m = n)
  | _ => false
theorem rfB_of {v : Value} {n : Nat} (h : rfB v n = true) : v = .ref n := by
  unfold rfB at h
  split at h
  · rw [of_decide_eq_true h]
  · cases h
def P0 : Nat → Nat → Int32 := fun o k => if o = 67 ∧ k < 4 then nI 1 else 0
theorem P0_z {o k : Nat} (h : o ≠ 67) : P0 o k = 0 := if_neg (fun q => h q.1)
theorem ix_0 : ix (0 : Int32) = 0 := ix_nI (j := 0) (by decide)
theorem nS_P0 : nS P0 = 0 := by
  unfold nS
  rw [P0_z (by decide), ix_0]
theorem okP_P0 : okP P0 := by
  have z0 : (0 : Int32) = nI 0 := rfl
  refine ⟨?_, fun b hb => ⟨?_, ?_, ?_, fun k hk => ?_⟩, fun s hs => ?_, fun j hj => ?_⟩
  · rw [P0_z (by decide), z0]; exact bn_nI (by decide) (by decide)
  · rw [P0_z (by decide), z0]; exact bn_nI (by decide) (by decide)
  · rw [P0_z (by decide)]; exact Or.inl rfl
  · rw [P0_z (by decide)]; exact Or.inl rfl
  · rw [P0_z (by decide), ix_0] at hk; omega
  · rw [P0_z (by decide), ix_0] at hs; omega
  · have : P0 67 j = nI 1 := if_pos ⟨rfl, hj⟩
    rw [this]
    exact bn_nI (by decide) (by decide)
theorem okW_P0 : okW P0 := by
  refine ⟨okP_P0, fun b hb => ⟨fun _ => ⟨?_, ?_⟩, fun h => ?_⟩, fun s hs => ?_⟩
  · rw [P0_z (by decide)]; rfl
  · rw [P0_z (by decide)]
  · rw [P0_z (by decide)] at h
    exact (h rfl).elim
  · rw [nS_P0] at hs
    omega
theorem rdM_0 {A : Nat → Nat → Int32} {b : Nat} : rdM A b 0 = 0 := rfl
def X0 (Ln : Nat) (xs : Nat → Int32) : abH := mkH (ab_h0 Ln xs) 2 65 tsC iwC rwC
section ST
variable {d Ln : Nat} {xs : Nat → Int32} {Q : Option Value → abH → Prop}
theorem X0_I {o k : Nat} (h : 2 ≤ o ∧ o < 65) : gI (X0 Ln xs) o k = lkI iwC o k := mk_gI h
theorem KC_all1 : KCT.all (fun e => decide (e.1 < 65) && (decide (e.1 = 1 ∧ e.2 = (101, 6)) || (decide (2 ≤ e.1) && decide (tsC.reverse[e.1 - 2]? = some e.2)))) = true := by decide +kernel
theorem KC_all2 : KCR.all (fun e => decide (2 ≤ e.1 ∧ e.1 < 65) && rfB (lkR rwC e.1 e.2.1) e.2.2) = true := by decide +kernel
theorem KM_all1 : KMT.all (fun e => decide (65 ≤ e.1) && decide (tsM.reverse[e.1 - 65]? = some e.2)) = true := by decide +kernel
theorem KM_all2 : KMR.all (fun e => decide (65 ≤ e.1 ∧ e.1 < 104) && rfB (lkR rwM e.1 e.2.1) e.2.2) = true := by decide +kernel
theorem KC_X0 : KC (X0 Ln xs) := by
  refine ⟨fun e he => ?_, fun e he => ?_⟩
  · have h := List.all_eq_true.mp KC_all1 e he
    simp only [Bool.and_eq_true, Bool.or_eq_true, decide_eq_true_iff] at h
    rcases h.2 with ⟨h1, h2⟩ | ⟨h1, h2⟩
    · rw [h1, h2]
      exact mk_gT0 (B := ab_h0 Ln xs) rfl (by decide)
    · exact mk_gT rfl h1 h2
  · have h := List.all_eq_true.mp KC_all2 e he
    simp only [Bool.and_eq_true, decide_eq_true_iff] at h
    have e1 : gR (X0 Ln xs) e.1 e.2.1 = lkR rwC e.1 e.2.1 := mk_gR h.1
    rw [e1]
    exact rfB_of h.2
theorem AB_X0 : AB (X0 Ln xs) := ⟨rfl, rfl, rfl, rfl, rfl, rfl⟩
theorem X0_21 : gR (X0 Ln xs) 2 1 = .ref 5 := (mk_gR (by decide)).trans (rfB_of (by decide +kernel))
theorem X0_22 : gR (X0 Ln xs) 2 2 = .ref 17 := (mk_gR (by decide)).trans (rfB_of (by decide +kernel))
theorem cl_all : (List.range 12).all (fun b => decide (lkI iwC 6 b = 0) && (decide (lkI iwC 9 b = 0) && (decide (lkI iwC 10 b = -1) && decide (lkI iwC 11 b = 0)))) = true := by decide +kernel
theorem CP_X0 : CP (X0 Ln xs) 5 P0 := by
  unfold CP
  rw [nS_P0]
  refine ⟨?_, fun b hb => ?_, fun b hb k hk => ?_, fun s hs => ?_, fun s hs => ?_⟩
  · rw [X0_I (by decide)]
    exact (by decide +kernel : lkI iwC 5 6 = nI 0)
  · have h := List.all_eq_true.mp cl_all b (List.mem_range.mpr hb)
    simp only [Bool.and_eq_true, decide_eq_true_iff] at h
    rw [X0_I (by decide), X0_I (by decide), X0_I (by decide), X0_I (by decide), P0_z (by decide), P0_z (by decide)]
    exact ⟨h.1, h.2.1, h.2.2.1, h.2.2.2⟩
  · rw [P0_z (by decide), ix_0] at hk
    omega
  · omega
  · omega
theorem w_all : (List.range 4).all (fun b => decide (lkI iwC 52 b = nI 1)) = true := by decide +kernel
theorem X0_52 : ∀ l, l < 4 → gI (X0 Ln xs) 52 l = P0 67 l := by
  intro l hl
  have h := of_decide_eq_true (List.all_eq_true.mp w_all l (List.mem_range.mpr hl))
  have e : P0 67 l = nI 1 := if_pos ⟨rfl, hl⟩
  rw [X0_I (by decide), h, e]
theorem kClass (hQ : ∀ h', Fr rwS rnT (bgX (X0 Ln xs)) h' → TM h' 5 P0 (oRD P0 none) → gI h' 39 0 = nI 0 → Q none h') : aM (d + 20) 94 [.ref 2] (nO (ab_h0 Ln xs) 13 14) Q := by
  rw [mk_1 (n0 := 2) rfl, kC rfl]
  have t2 := gt_2 (KC_X0 (Ln := Ln) (xs := xs))
  rw [show mkH (ab_h0 Ln xs) 2 65 tsC iwC rwC = X0 Ln xs from rfl, s94_164 t2]
  refine t133 (d := d + 13) KC_X0 AB_X0 (Or.inl rfl) X0_21 okW_P0 CP_X0 X0_52 (fun h' F T e39 => ?_)
  simp only [aPs_n, s94_167]
  exact hQ h' F T e39
end ST
