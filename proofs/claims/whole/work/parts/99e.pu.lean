/-! THE ABSTRACT MACHINE: what a run leaves as it was -/
/-- kinds of cells stay; the script stays -/
def kp0 (h h' : abH) : Prop := (∀ o q, gT h o = some q → gT h' o = some q) ∧ ∀ Ln, gT h 0 = some (100, Ln) → gI h' 0 = gI h 0
theorem kp_rf {h : abH} : kp0 h h := ⟨fun _ _ q => q, fun _ _ => rfl⟩
theorem kp_tr {h h' h'' : abH} (a : kp0 h h') (b : kp0 h' h'') : kp0 h h'' := ⟨fun o q e => b.1 o q (a.1 o q e), fun Ln e => (b.2 Ln (a.1 _ _ e)).trans (a.2 Ln e)⟩
theorem kp_pA {h : abH} {o t n : Nat} {f : Nat → Int32} (e : gT h o = some (t, n)) (ht : t < 100) : kp0 h (pA h o f) := by
  refine ⟨fun _ _ q => q, fun Ln q => gI_ne ?_⟩
  rintro rfl
  rw [q] at e
  cases e
  exact absurd ht (by decide)
theorem kp_pI {h : abH} {o k t n : Nat} {v : Int32} (e : gT h o = some (t, n)) (ht : t < 100) : kp0 h (pI h o k v) := kp_pA e ht
theorem kp_pR {h : abH} {o k : Nat} {v : Value} : kp0 h (pR h o k v) := ⟨fun _ _ q => q, fun _ _ => rfl⟩
theorem kp_nO {h : abH} {t n : Nat} : kp0 h (nO h t n) := by
  refine ⟨fun o q e => ?_, fun Ln e => ?_⟩
  · have h1 := gT_lt e
    unfold gT nO at *
    rw [List.getElem?_append_left h1]
    exact e
  · have h1 := gT_lt e
    show (if 0 = h.1.length then (fun _ => (0 : Int32)) else h.2.1 0) = h.2.1 0
    rw [if_neg (by omega)]
def puN (h : abH) : Option abNx → Prop
  | some (.inl (_, _, _, h')) => kp0 h h'
  | some (.inr (.inl (_, h'))) => kp0 h h'
  | _ => True
section PU
variable {h : abH} {pc len d ix : Nat} {L S : List Value} {mi : abMI}
theorem puN_go : puN h (ab_go pc L S h) := kp_rf
theorem puN_no : puN h none := True.intro
theorem puN_br {c : Bool} {off : Int} : puN h (ab_br c pc off L S h) := by
  unfold ab_br
  split
  · split
    · exact puN_go
    · exact puN_go
  · exact puN_no
theorem puN_jp {off : Int} : puN h (ab_jp pc off L S h) := by
  unfold ab_jp
  split
  · exact puN_go
  · exact puN_no
theorem puN_i2 {f : Int32 → Int32 → Int32} : puN h (ab_i2 f pc L S h) := by
  unfold ab_i2
  split
  · exact puN_go
  · exact puN_no
theorem puN_ild {k : Nat} : puN h (ab_ildK k len pc L S h) := by
  unfold ab_ildK
  split
  · exact puN_go
  · exact puN_no
theorem puN_ald {k : Nat} : puN h (ab_aldK k len pc L S h) := by
  unfold ab_aldK
  split
  · exact puN_go
  · exact puN_no
theorem puN_ist {k : Nat} : puN h (ab_istK k len pc L S h) := by
  unfold ab_istK
  split
  · split
    · exact puN_go
    · exact puN_no
  · exact puN_no
theorem puN_ast {k : Nat} : puN h (ab_astK k len pc L S h) := by
  unfold ab_astK
  split
  · split
    · exact puN_go
    · exact puN_no
  · exact puN_no
theorem abFT_ci : abFT.all (fun e => decide (e.2.1 < 13)) = true := by decide +kernel
theorem lk_mem {α : Type} {l : List (Nat × α)} {k : Nat} {v : α} (e : l.lookup k = some v) : ∃ k', (k', v) ∈ l := by
  induction l with
  | nil => cases e
  | cons a l ih =>
    obtain ⟨a1, a2⟩ := a
    rw [List.lookup_cons] at e
    split at e
    · cases e
      exact ⟨a1, List.mem_cons_self⟩
    · obtain ⟨k', hk⟩ := ih e
      exact ⟨k', List.mem_cons_of_mem _ hk⟩
theorem abFT_lt {key ci k ne w : Nat} (e : abFT.lookup key = some (ci, k, ne, w)) : ci < 13 := by
  obtain ⟨k', hk⟩ := lk_mem e
  have := List.all_eq_true.mp abFT_ci _ hk
  exact of_decide_eq_true this
theorem puN_get : puN h (ab_get mi ix pc L S h) := by
  unfold ab_get
  repeat' split
  all_goals first | exact puN_go | exact puN_no
theorem puN_put : puN h (ab_put mi ix pc L S h) := by
  unfold ab_put
  split
  · rename_i ci k ne w e
    have hc := abFT_lt e
    split
    · exact puN_no
    · split
      · split
        · rename_i t n eT
          split
          · rename_i q
            exact kp_pI eT (by omega)
          · exact puN_no
        · exact puN_no
      · split
        · split
          · exact kp_pR
          · exact puN_no
        · exact puN_no
      · exact puN_no
  · exact puN_no
theorem puN_new : puN h (ab_new mi ix pc L S h) := by
  unfold ab_new
  split
  · split
    · exact kp_nO
    · exact puN_no
  · exact puN_no
theorem puN_newa {t : Nat} : puN h (ab_newa t pc L S h) := by
  unfold ab_newa
  split
  · split
    · exact kp_nO
    · exact puN_no
  · exact puN_no
theorem puN_newq : puN h (ab_newq mi ix pc L S h) := by
  unfold ab_newq
  split
  · split
    · split
      · exact kp_nO
      · exact puN_no
    · exact puN_no
  · exact puN_no
theorem puN_iald : puN h (ab_iald pc L S h) := by
  unfold ab_iald
  repeat' split
  all_goals first | exact puN_go | exact puN_no
theorem puN_zald : puN h (ab_zald pc L S h) := by
  unfold ab_zald
  repeat' split
  all_goals first | exact puN_go | exact puN_no
theorem puN_aald : puN h (ab_aald pc L S h) := by
  unfold ab_aald
  repeat' split
  all_goals first | exact puN_go | exact puN_no
theorem puN_iast : puN h (ab_iast pc L S h) := by
  unfold ab_iast
  split
  · split
    · rename_i t n eT
      split
      · rename_i q
        exact kp_pI eT (by omega)
      · exact puN_no
    · exact puN_no
  · exact puN_no
theorem puN_zast : puN h (ab_zast pc L S h) := by
  unfold ab_zast
  split
  · split
    · rename_i t n eT
      split
      · rename_i q
        exact kp_pI eT (by omega)
      · exact puN_no
    · exact puN_no
  · exact puN_no
theorem puN_aast : puN h (ab_aast pc L S h) := by
  unfold ab_aast
  split
  · split
    · split
      · split
        · exact kp_pR
        · exact puN_no
      · exact puN_no
    · exact puN_no
  · exact puN_no
theorem puN_alen : puN h (ab_alen pc L S h) := by
  unfold ab_alen
  repeat' split
  all_goals first | exact puN_go | exact puN_no
theorem puN_acpy : puN h (ab_acpy d pc L S h) := by
  unfold ab_acpy
  split
  · split
    · split
      · rename_i t n eT
        split
        · rename_i q
          exact kp_pA eT (by omega)
        · exact puN_no
      · exact puN_no
    · exact puN_no
  · exact puN_no
theorem puN_inv {op : Nat} : puN h (ab_inv d op mi ix pc L S h) := by
  unfold ab_inv
  repeat' split
  all_goals first | exact puN_go | exact puN_no | exact puN_acpy | exact True.intro
theorem puN_ins {ins : Instr} : puN h (ab_ins d mi pc len L S h ins) := by
  unfold ab_ins
  split
  all_goals first | exact puN_no | skip
  all_goals (repeat' split)
  all_goals first | exact puN_no | exact puN_go | exact puN_i2 | exact puN_ild | exact puN_ald | exact puN_ist | exact puN_ast | exact puN_br | exact puN_jp | exact puN_get | exact puN_put | exact puN_new | exact puN_newa | exact puN_newq | exact puN_iald | exact puN_zald | exact puN_aald | exact puN_iast | exact puN_zast | exact puN_aast | exact puN_alen | exact puN_inv | exact kp_rf
theorem puN_next {m : Nat} : puN h (ab_next d m pc L S h) := by
  unfold ab_next
  split
  · exact puN_no
  · split
    · exact puN_ins
    · exact puN_no
end PU
theorem pu_run : ∀ (n d m pc : Nat) (L S : List Value) (h : abH) (r : Option Value × abH), ab_run n d m pc L S h = some r → kp0 h r.2 := by
  intro n
  induction n with
  | zero => intro d m pc L S h r e; cases e
  | succ n ih =>
    intro d m pc L S h r e
    have hn := puN_next (h := h) (d := d) (m := m) (pc := pc) (L := L) (S := S)
    rw [ab_run] at e
    split at e <;> rename_i q
    · cases e
    · rw [q] at hn
      exact kp_tr hn (ih _ _ _ _ _ _ _ e)
    · cases e
      rw [q] at hn
      exact hn
    · cases d with
      | zero => cases e
      | succ d' =>
        simp only at e
        split at e <;> rename_i q2
        · cases e
        · exact kp_tr (ih _ _ _ _ _ _ _ q2) (ih _ _ _ _ _ _ _ e)
theorem aM_pu {d y : Nat} {as : List Value} {h : abH} {Q : Option Value → abH → Prop} (w : aM d y as h Q) : aM d y as h (fun v h' => Q v h' ∧ kp0 h h') := by
  obtain ⟨n, r, hr, q⟩ := w
  exact ⟨n, r, hr, q, pu_run _ _ _ _ _ _ _ _ hr⟩
/-- a call on both sides, with what a run leaves as it was -/
theorem Pr_k {d : Nat} {hs h : abH} {y1 y2 : Nat} {a1 a2 : List Value} (p : Pr d hs h y1 y2 a1 a2) {Q1 : Option Value → abH → Prop} (hK : ∀ w h1, kp0 h h1 → (∀ Q2 : Option Value → abH → Prop, (∀ h2, Rel hs h2 → Q2 (some (.int w)) h2) → aM (d + 20) y2 a2 h1 Q2) → Q1 (some (.int w)) h1) : aM (d + 20) y1 a1 h Q1 := by
  have w := p (fun v h1 => ∃ w, v = some (.int w) ∧ ∀ Q2 : Option Value → abH → Prop, (∀ h2, Rel hs h2 → Q2 (some (.int w)) h2) → aM (d + 20) y2 a2 h1 Q2) (fun v h1 k => ⟨v, rfl, k⟩)
  refine aM_imp ?_ (aM_pu w)
  rintro v h1 ⟨⟨w, rfl, k⟩, kp⟩
  exact hK w h1 kp k
