/-! HEAPS as they are made -/
def lkI : List (Nat × Nat × Int32) → Nat → Nat → Int32
  | [], _, _ => 0
  | (o, k, v) :: t, o', k' => if o' = o ∧ k' = k then v else lkI t o' k'
def lkR : List (Nat × Nat × Nat) → Nat → Nat → Value
  | [], _, _ => .null
  | (o, k, v) :: t, o', k' => if o' = o ∧ k' = k then .ref v else lkR t o' k'
theorem lkR_eq {t : List (Nat × Nat × Nat)} {o k v : Nat} : lkR ((o, k, v) :: t) o k = .ref v := if_pos ⟨rfl, rfl⟩
theorem lkR_ne {t : List (Nat × Nat × Nat)} {o k v o' k' : Nat} (h : ¬ (o' = o ∧ k' = k)) : lkR ((o, k, v) :: t) o' k' = lkR t o' k' := if_neg h
def okIw (l : List (Nat × Nat × Int32)) (n : Nat) : Bool := l.all (fun e => decide (e.1 < n))
def okRw (l : List (Nat × Nat × Nat)) (n : Nat) : Bool := l.all (fun e => decide (e.1 < n))
theorem lkI_no {o k n : Nat} : ∀ {l : List (Nat × Nat × Int32)}, okIw l n = true → n ≤ o → lkI l o k = 0 := by
  intro l
  induction l with
  | nil => intro _ _; rfl
  | cons a l ih =>
    intro h ho
    obtain ⟨a1, a2, a3⟩ := a
    have h := List.all_eq_true.mp h
    have h1 := of_decide_eq_true (h _ List.mem_cons_self)
    rw [lkI, if_neg (fun q => by have := q.1; simp only at h1; omega)]
    exact ih (List.all_eq_true.mpr (fun e he => h e (List.mem_cons_of_mem _ he))) ho
theorem lkR_no {o k n : Nat} : ∀ {l : List (Nat × Nat × Nat)}, okRw l n = true → n ≤ o → lkR l o k = .null := by
  intro l
  induction l with
  | nil => intro _ _; rfl
  | cons a l ih =>
    intro h ho
    obtain ⟨a1, a2, a3⟩ := a
    have h := List.all_eq_true.mp h
    have h1 := of_decide_eq_true (h _ List.mem_cons_self)
    rw [lkR, if_neg (fun q => by have := q.1; simp only at h1; omega)]
    exact ih (List.all_eq_true.mpr (fun e he => h e (List.mem_cons_of_mem _ he))) ho
def mkH (B : abH) (n0 n : Nat) (ts : List (Nat × Nat)) (iw : List (Nat × Nat × Int32)) (rw : List (Nat × Nat × Nat)) : abH := (B.1 ++ ts.reverse, fun o k => if n0 ≤ o ∧ o < n then lkI iw o k else B.2.1 o k, fun o k => if n0 ≤ o ∧ o < n then lkR rw o k else B.2.2 o k)
section MK
variable {B : abH} {n0 n o k t z v : Nat} {ts : List (Nat × Nat)} {iw : List (Nat × Nat × Int32)} {rw : List (Nat × Nat × Nat)}
theorem mk_len (hB : B.1.length = n0) (hn : n0 + ts.length = n) : (mkH B n0 n ts iw rw).1.length = n := by
  unfold mkH
  simp only [List.length_append, List.length_reverse]
  omega
theorem mk_nO (hB : B.1.length = n0) (hn : n0 + ts.length = n) (hi : okIw iw n = true) (hr : okRw rw n = true) : nO (mkH B n0 n ts iw rw) t z = mkH B n0 (n + 1) ((t, z) :: ts) iw rw := by
  have hl := mk_len (iw := iw) (rw := rw) hB hn
  unfold nO
  rw [hl]
  unfold mkH
  refine Prod.ext ?_ (Prod.ext ?_ ?_)
  · simp only [List.reverse_cons, List.append_assoc]
  · funext o k
    simp only
    by_cases e : o = n
    · subst e
      rw [if_pos rfl, if_pos ⟨by omega, by omega⟩, lkI_no hi (Nat.le_refl _)]
    · rw [if_neg e]
      by_cases h1 : n0 ≤ o ∧ o < n
      · rw [if_pos h1, if_pos ⟨h1.1, by omega⟩]
      · rw [if_neg h1, if_neg (by omega)]
  · funext o k
    simp only
    by_cases e : o = n
    · subst e
      rw [if_pos rfl, if_pos ⟨by omega, by omega⟩, lkR_no hr (Nat.le_refl _)]
    · rw [if_neg e]
      by_cases h1 : n0 ≤ o ∧ o < n
      · rw [if_pos h1, if_pos ⟨h1.1, by omega⟩]
      · rw [if_neg h1, if_neg (by omega)]
theorem mk_pI {x : Int32} (h : n0 ≤ o ∧ o < n) : pI (mkH B n0 n ts iw rw) o k x = mkH B n0 n ts ((o, k, x) :: iw) rw := by
  refine Prod.ext rfl (Prod.ext ?_ rfl)
  funext o' k'
  show gI (pI (mkH B n0 n ts iw rw) o k x) o' k' = _
  rw [gI_pI]
  show (if o' = o ∧ k' = k then x else if n0 ≤ o' ∧ o' < n then lkI iw o' k' else B.2.1 o' k') = if n0 ≤ o' ∧ o' < n then (if o' = o ∧ k' = k then x else lkI iw o' k') else B.2.1 o' k'
  by_cases e : o' = o ∧ k' = k
  · rw [if_pos e, if_pos e, if_pos (by rw [e.1]; exact h)]
  · rw [if_neg e, if_neg e]
theorem mk_pR (h : n0 ≤ o ∧ o < n) : pR (mkH B n0 n ts iw rw) o k (.ref v) = mkH B n0 n ts iw ((o, k, v) :: rw) := by
  refine Prod.ext rfl (Prod.ext rfl ?_)
  funext o' k'
  show gR (pR (mkH B n0 n ts iw rw) o k (.ref v)) o' k' = _
  rw [gR_pR]
  show (if o' = o ∧ k' = k then .ref v else if n0 ≤ o' ∧ o' < n then lkR rw o' k' else B.2.2 o' k') = if n0 ≤ o' ∧ o' < n then (if o' = o ∧ k' = k then .ref v else lkR rw o' k') else B.2.2 o' k'
  by_cases e : o' = o ∧ k' = k
  · rw [if_pos e, if_pos e, if_pos (by rw [e.1]; exact h)]
  · rw [if_neg e, if_neg e]
theorem mk_gT {q : Nat × Nat} (hB : B.1.length = n0) (h : n0 ≤ o) (e : ts.reverse[o - n0]? = some q) : gT (mkH B n0 n ts iw rw) o = some q := by
  unfold gT mkH
  rw [List.getElem?_append_right (by omega), hB]
  exact e
theorem mk_gR (h : n0 ≤ o ∧ o < n) : gR (mkH B n0 n ts iw rw) o k = lkR rw o k := if_pos h
theorem mk_gI (h : n0 ≤ o ∧ o < n) : gI (mkH B n0 n ts iw rw) o k = lkI iw o k := if_pos h
theorem mk_gT0 (hB : B.1.length = n0) (h : o < n0) : gT (mkH B n0 n ts iw rw) o = gT B o := by
  unfold gT mkH
  rw [List.getElem?_append_left (by omega)]
theorem mk_gR0 (h : o < n0) : gR (mkH B n0 n ts iw rw) o k = gR B o k := if_neg (by omega)
theorem mk_gI0 (h : o < n0) : gI (mkH B n0 n ts iw rw) o k = gI B o k := if_neg (by omega)
def inT (ts : List (Nat × Nat)) (i t j : Nat) : Bool := match ts.reverse[i]? with
  | some (t', m) => decide (t' = t) && decide (j < m)
  | none => false
theorem inT_of {i j : Nat} (h : inT ts i t j = true) : ∃ m, ts.reverse[i]? = some (t, m) ∧ j < m := by
  unfold inT at h
  cases e : ts.reverse[i]? with
  | none => rw [e] at h; cases h
  | some q =>
    obtain ⟨t', m⟩ := q
    rw [e] at h
    simp only [Bool.and_eq_true, decide_eq_true_iff] at h
    obtain ⟨rfl, h2⟩ := h
    exact ⟨m, rfl, h2⟩
theorem mk_inJ {j : Nat} (hB : B.1.length = n0) (h : n0 ≤ o) (hj : j < 2 ^ 31) (e : inT ts (o - n0) 0 j = true) : inb (nI j) (aJ (mkH B n0 n ts iw rw) o) = True := by
  obtain ⟨m, e1, e2⟩ := inT_of e
  have : aJ (mkH B n0 n ts iw rw) o = m := by
    unfold aJ
    rw [mk_gT hB h e1]
    rfl
  rw [this, inb_nI hj]
  exact eq_true e2
theorem mk_inZ {j : Nat} (hB : B.1.length = n0) (h : n0 ≤ o) (hj : j < 2 ^ 31) (e : inT ts (o - n0) 1 j = true) : inb (nI j) (aZ (mkH B n0 n ts iw rw) o) = True := by
  obtain ⟨m, e1, e2⟩ := inT_of e
  have : aZ (mkH B n0 n ts iw rw) o = m := by
    unfold aZ
    rw [mk_gT hB h e1]
    rfl
  rw [this, inb_nI hj]
  exact eq_true e2
theorem mk_156 {d j o2 : Nat} {L S : List Value} {Q : Option Value → abH → Prop} (hB : B.1.length = n0) (h : n0 ≤ o ∧ o < n) (h2 : n0 ≤ o2) (hj : j < 2 ^ 31) (e : inT ts (o - n0) 2 j = true) (e2 : inT ts (o2 - n0) 11 0 = true) : aW d 94 156 L (.ref o2 :: .int (nI j) :: .ref o :: S) (mkH B n0 n ts iw rw) Q = aW d 94 157 L S (mkH B n0 n ts iw ((o, j, o2) :: rw)) Q := by
  obtain ⟨m, e1, e3⟩ := inT_of e
  obtain ⟨m2, e4, e5⟩ := inT_of e2
  rw [s94_156 (mk_gT hB h.1 e1) (mk_gT hB h2 e4) (by rw [inb_nI hj]; exact e3), nI_clamp hj, mk_pR h]
end MK
