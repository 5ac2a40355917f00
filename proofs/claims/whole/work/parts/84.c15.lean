/-! HEIGHT: a search that gives up early, the numbers alone -/
theorem ly_congr {P : Nat → Nat → Int32} {o bb f f' : Nat → Nat} : ∀ {i : Nat}, (∀ j, j < i → f j = f' j) → lyL P o bb f i = lyL P o bb f' i ∧ lyT P o bb f i = lyT P o bb f' i := by
  intro i
  induction i with
  | zero => intro _; exact ⟨rfl, rfl⟩
  | succ i ih =>
    intro h
    obtain ⟨h1, h2⟩ := ih (fun j hj => h j (by omega))
    have hi := h i (by omega)
    have hx : lyX P o bb f i (lyL P o bb f i) = lyX P o bb f' i (lyL P o bb f' i) := by
      unfold lyX
      rw [h1, hi]
      have key : ∀ (S S' : Nat → Bool) (z : Nat) (L L' Z Z' : Nat → Nat), (∀ j, j < i → S j = S' j ∧ L j = L' j ∧ Z j = Z' j) → lwX S z L Z i = lwX S' z L' Z' i := by
        intro S S' z L L' Z Z' e
        unfold lwX
        have : vld S z L Z i = vld S' z L' Z' i := by
          funext x
          rw [Bool.eq_iff_iff, vld_iff, vld_iff]
          constructor
          · intro q j hj
            rw [← (e j hj).1, ← (e j hj).2.1, ← (e j hj).2.2]
            exact q j hj
          · intro q j hj
            rw [(e j hj).1, (e j hj).2.1, (e j hj).2.2]
            exact q j hj
        rw [this]
      refine key _ _ _ _ _ _ _ (fun j hj => ?_)
      rw [h j (by omega)]
      exact ⟨rfl, rfl, rfl⟩
    constructor
    · rw [lyL, lyL, hx, hi, h1]
    · rw [lyT, lyT, hx, hi, h2]
theorem lyT_mono {P : Nat → Nat → Int32} {o bb f : Nat → Nat} {i : Nat} : ∀ {n : Nat}, i ≤ n → lyT P o bb f i ≤ lyT P o bb f n := by
  intro n hn
  obtain ⟨j, rfl⟩ := Nat.exists_eq_add_of_le hn
  clear hn
  induction j with
  | zero => exact Nat.le_refl _
  | succ j ih =>
    refine Nat.le_trans ih ?_
    show lyT P o bb f (i + j) ≤ lyT P o bb f (i + j + 1)
    rw [lyT]
    split <;> omega
theorem gf_app {r q : List Nat} {k : Nat} (h : k < r.length) : gf (r ++ q) k = gf r k := by
  unfold gf
  rw [List.getD_eq_getElem?_getD, List.getD_eq_getElem?_getD, List.getElem?_append_left h]
theorem gf_last {r : List Nat} {i : Nat} : gf (r ++ [i]) r.length = i := by
  unfold gf
  rw [List.getD_eq_getElem?_getD, List.getElem?_append_right (Nat.le_refl _)]
  simp
theorem gf_mem {r : List Nat} {i : Nat} : (∃ k, k < r.length ∧ gf r k = i) ↔ i ∈ r := by
  constructor
  · rintro ⟨k, h1, h2⟩
    unfold gf at h2
    rw [List.getD_eq_getElem?_getD, List.getElem?_eq_getElem h1] at h2
    rw [← h2]
    exact List.getElem_mem h1
  · intro h
    obtain ⟨k, h1, h2⟩ := List.getElem_of_mem h
    refine ⟨k, h1, ?_⟩
    unfold gf
    rw [List.getD_eq_getElem?_getD, List.getElem?_eq_getElem h1, h2]
    rfl
theorem row_tb {r : List Nat} {i : Nat} : tb (obt (gf r) r.length) i = r.contains i := by
  rw [Bool.eq_iff_iff, obt_tb, gf_mem, List.contains_iff_mem]
section HS
variable {P : Nat → Nat → Int32} {o bb : Nat → Nat} {n : Nat}
/-- is what is begun no lower than the best one -/
def prn (P : Nat → Nat → Int32) (o bb : Nat → Nat) (n : Nat) (r : List Nat) (best : Option (List Nat)) : Bool := match best with
  | none => false
  | some b => decide (lyT P o bb (gf b) n ≤ lyT P o bb (gf r) r.length)
def exI (step : List Nat → Option (List Nat) → Option (List Nat)) (r : List Nat) (best : Option (List Nat)) : Nat → Option (List Nat)
  | 0 => best
  | i + 1 => if r.contains i = true then exI step r best i else step (r ++ [i]) (exI step r best i)
def exF (P : Nat → Nat → Int32) (o bb : Nat → Nat) (n : Nat) : Nat → List Nat → Option (List Nat) → Option (List Nat)
  | 0, r, best => if prn P o bb n r best = true then best else some r
  | m + 1, r, best => if prn P o bb n r best = true then best else exI (exF P o bb n m) r best n
theorem hgF_app {best : Option (List Nat)} {l1 l2 : List (List Nat)} : hgF P o bb n best (l1 ++ l2) = hgF P o bb n (hgF P o bb n best l1) l2 := by
  induction l1 generalizing best with
  | nil => rfl
  | cons r l ih =>
    rw [List.cons_append, hgF, hgF]
    exact ih
/-- what is begun no lower ends no lower -/
theorem hgF_prn {r : List Nat} {b : List Nat} (hr : r.length ≤ n) (h : lyT P o bb (gf b) n ≤ lyT P o bb (gf r) r.length) : ∀ {l : List (List Nat)}, hgF P o bb n (some b) (l.map (fun q => r ++ q)) = some b := by
  intro l
  induction l with
  | nil => rfl
  | cons q l ih =>
    rw [List.map_cons, hgF]
    have e : hgB P o bb n (some b) (r ++ q) = some b := by
      unfold hgB
      simp only
      rw [if_neg]
      have h1 : lyT P o bb (gf (r ++ q)) r.length = lyT P o bb (gf r) r.length := (ly_congr (fun j hj => gf_app hj)).2
      have h2 := lyT_mono (P := P) (o := o) (bb := bb) (f := gf (r ++ q)) hr
      omega
    rw [e]
    exact ih
theorem av_succ {r : List Nat} {i : Nat} : (List.range (i + 1)).filter (fun j => !r.contains j) = (List.range i).filter (fun j => !r.contains j) ++ (if r.contains i = true then [] else [i]) := by
  rw [List.range_succ, List.filter_append]
  congr 1
  cases h : r.contains i <;> simp only [List.filter_cons, List.filter_nil, h, Bool.not_true, Bool.not_false, if_true, if_false, Bool.false_eq_true]
theorem av_next {r : List Nat} {i : Nat} : ((List.range n).filter (fun j => !r.contains j)).filter (fun j => j != i) = (List.range n).filter (fun j => !(r ++ [i]).contains j) := by
  rw [List.filter_filter]
  apply List.filter_congr
  intro j _
  rw [Bool.eq_iff_iff]
  simp only [Bool.and_eq_true, Bool.not_eq_true', bne_iff_ne]
  constructor
  · rintro ⟨h1, h2⟩
    cases hq : (r ++ [i]).contains j with
    | false => rfl
    | true =>
      rw [List.contains_iff_mem, List.mem_append, List.mem_singleton] at hq
      rcases hq with hq | hq
      · rw [← List.contains_iff_mem, h2] at hq; cases hq
      · exact absurd hq h1
  · intro h
    constructor
    · intro e
      have : (r ++ [i]).contains j = true := by rw [List.contains_iff_mem, List.mem_append, List.mem_singleton]; exact Or.inr e
      rw [this] at h
      cases h
    · cases hq : r.contains j with
      | false => rfl
      | true =>
        have : (r ++ [i]).contains j = true := by
          rw [List.contains_iff_mem] at hq ⊢
          rw [List.mem_append]
          exact Or.inl hq
        rw [this] at h
        cases h
/-- the search finds what trying all finds -/
theorem exF_hg : ∀ {m : Nat} {r : List Nat} {best : Option (List Nat)}, r.length + m = n → exF P o bb n m r best = hgF P o bb n best ((prms m ((List.range n).filter (fun j => !r.contains j))).map (fun q => r ++ q)) := by
  intro m
  induction m with
  | zero =>
    intro r best hl
    have hl : r.length = n := by omega
    rw [exF, prms]
    simp only [List.map_cons, List.map_nil, List.append_nil, hgF]
    unfold prn hgB
    cases best with
    | none => rfl
    | some b =>
      simp only [hl]
      by_cases h : lyT P o bb (gf r) n < lyT P o bb (gf b) n
      · rw [if_pos h, decide_eq_false (by omega)]; rfl
      · rw [if_neg h, decide_eq_true (by omega)]; rfl
  | succ m ih =>
    intro r best hl
    rw [exF]
    by_cases hp : prn P o bb n r best = true
    · rw [if_pos hp]
      cases best with
      | none => cases hp
      | some b => exact (hgF_prn (by omega) (of_decide_eq_true hp)).symm
    · rw [if_neg hp]
      have key : ∀ i, i ≤ n → exI (exF P o bb n m) r best i = hgF P o bb n best (((((List.range i).filter (fun j => !r.contains j)).map (fun i => (prms m (((List.range n).filter (fun j => !r.contains j)).filter (fun j => j != i))).map (fun q => i :: q))).flatten).map (fun q => r ++ q)) := by
        intro i
        induction i with
        | zero => intro _; rfl
        | succ i ihi =>
          intro hi
          rw [exI, av_succ]
          cases hc : r.contains i with
          | true =>
            simp only [if_true, List.append_nil]
            exact ihi (by omega)
          | false =>
            simp only [Bool.false_eq_true, if_false]
            rw [List.map_append, List.flatten_append, List.map_append, hgF_app, ← ihi (by omega), ih (by rw [List.length_append]; simp only [List.length_cons, List.length_nil]; omega)]
            congr 1
            simp only [List.map_cons, List.map_nil, List.flatten_cons, List.flatten_nil, List.append_nil, List.map_map]
            rw [av_next]
            apply List.map_congr_left
            intro q _
            simp
      rw [key n (Nat.le_refl _), prms]
theorem exF_rws : exF P o bb n n [] none = hgF P o bb n none (rws n) := by
  rw [exF_hg (by simp)]
  unfold rws
  have e : (List.range n).filter (fun j => !([] : List Nat).contains j) = List.range n := by
    rw [List.filter_eq_self]
    intro j _
    rfl
  rw [e]
  congr 1
  simp
end HS
