/-! WHAT LIES WHERE: nothing shares a cell -/
def dj (P : Nat → Nat → Int32) (L : Nat → Option Nat) : Prop := ∀ a b, a < 12 → b < 12 → a ≠ b → ∀ x y, L a = some x → L b = some y → 0 < zS P a → 0 < zS P b → x + zS P a ≤ y ∨ y + zS P b ≤ x
theorem enF_is {P : Nat → Nat → Int32} {L : Nat → Option Nat} {x : Nat} : ∀ {n : Nat}, enF P L x n = x ∨ ∃ c, c < n ∧ L c = some x ∧ enF P L x n = x + zS P c ∧ 0 < zS P c := by
  intro n
  induction n with
  | zero => exact Or.inl rfl
  | succ n ih =>
    rw [enF]
    split
    · rename_i h
      rw [Bool.and_eq_true, decide_eq_true_iff] at h
      have hge := enF_ge (P := P) (L := L) (x := x) (n := n)
      exact Or.inr ⟨n, by omega, eq_of_beq h.1, rfl, by omega⟩
    · rcases ih with h | ⟨c, h1, h2⟩
      · exact Or.inl h
      · exact Or.inr ⟨c, by omega, h2⟩
theorem enF_dj {P : Nat → Nat → Int32} {L : Nat → Option Nat} (J : dj P L) {b y : Nat} (hb : b < 12) (hL : L b = some y) (hz : 0 < zS P b) : enF P L y 12 = y + zS P b := by
  have h1 := enF_gb (P := P) hL (n := 12) hb
  rcases enF_is (P := P) (L := L) (x := y) (n := 12) with h | ⟨c, c1, c2, c3, c4⟩
  · omega
  · by_cases e : c = b
    · rw [c3, e]
    · have := J c b c1 hb e y y c2 hL c4 hz
      omega
/-- what is put into a HOLE shares no cell with what lies -/
theorem puF_free {P : Nat → Nat → Int32} {L : Nat → Option Nat} (J : dj P L) {sz rl : Nat} : ∀ {f x : Nat} {acc : Option (Nat × Nat)}, cnF P L x 12 ≤ f → (∀ a, acc = some a → sz ≤ a.2 ∧ ∀ c y, c < 12 → L c = some y → 0 < zS P c → y + zS P c ≤ a.1 ∨ a.1 + a.2 ≤ y) → (∀ c y, c < 12 → L c = some y → 0 < zS P c → y < x → y + zS P c ≤ x) → ∀ c y, c < 12 → L c = some y → 0 < zS P c → y + zS P c ≤ puF P L sz rl f acc x ∨ puF P L sz rl f acc x + sz ≤ y := by
  have fin : ∀ {x : Nat} {acc : Option (Nat × Nat)}, nxF P L x 12 = none → (∀ a, acc = some a → sz ≤ a.2 ∧ ∀ c y, c < 12 → L c = some y → 0 < zS P c → y + zS P c ≤ a.1 ∨ a.1 + a.2 ≤ y) → (∀ c y, c < 12 → L c = some y → 0 < zS P c → y < x → y + zS P c ≤ x) → ∀ c y, c < 12 → L c = some y → 0 < zS P c → y + zS P c ≤ puE acc x ∨ puE acc x + sz ≤ y := by
    intro x acc hn ha hx c y hc hL hz
    unfold puE
    cases acc with
    | none =>
      refine Or.inl ?_
      by_cases h1 : y < x
      · exact hx c y hc hL hz h1
      · obtain ⟨w, e, _⟩ := nxF_min (P := P) hc hL (show x ≤ y by omega) hz
        rw [hn] at e
        cases e
    | some a =>
      obtain ⟨a1, a2⟩ := ha a rfl
      have := a2 c y hc hL hz
      simp only
      omega
  intro f
  induction f with
  | zero =>
    intro x acc hc ha hx
    rw [puF]
    exact fin (cnF_0 (by omega)) ha hx
  | succ f ih =>
    intro x acc hc ha hx
    rw [puF]
    cases hq : nxF P L x 12 with
    | none => exact fin hq ha hx
    | some y =>
      obtain ⟨h1, b, h2, h3, h4⟩ := nxF_ok hq
      have hc2 := cnF_nx hq
      have he := enF_dj J h2 h3 h4
      have ge : ∀ c z, c < 12 → L c = some z → 0 < zS P c → x ≤ z → y ≤ z := by
        intro c z hc hL hz hxz
        obtain ⟨w, e, hw⟩ := nxF_min (P := P) hc hL hxz hz
        rw [hq] at e
        cases e
        exact hw
      refine ih (by omega) ?_ ?_
      · intro a e
        unfold hlS at e
        split at e
        · rename_i g
          cases e
          rw [Bool.and_eq_true, Bool.and_eq_true, decide_eq_true_iff, decide_eq_true_iff] at g
          refine ⟨g.2.1, fun c z hc hL hz => ?_⟩
          simp only
          by_cases h5 : z < x
          · exact Or.inl (hx c z hc hL hz h5)
          · have := ge c z hc hL hz (by omega)
            exact Or.inr (by omega)
        · exact ha a e
      · intro c z hc hL hz hlt
        rw [he] at hlt ⊢
        by_cases h5 : z < x
        · have := hx c z hc hL hz h5; omega
        · have h6 := ge c z hc hL hz (by omega)
          by_cases e : c = b
          · subst e
            rw [h3] at hL
            cases hL
            omega
          · have := J b c h2 hc (Ne.symm e) y z h3 hL h4 hz
            omega
theorem puR_free {P : Nat → Nat → Int32} {L : Nat → Option Nat} (J : dj P L) {rl b c y : Nat} (hc : c < 12) (hL : L c = some y) (hz : 0 < zS P c) : y + zS P c ≤ puR P L rl b ∨ puR P L rl b + zS P b ≤ y :=
  puF_free J cnF_le (fun a e => by cases e) (fun c y _ _ _ h => by omega) c y hc hL hz
theorem dj_put {P : Nat → Nat → Int32} {L : Nat → Option Nat} (J : dj P L) {rl b : Nat} : dj P (updL L b (some (puR P L rl b))) := by
  intro a c ha hc hne x y hx hy hza hzc
  by_cases e1 : a = b
  · subst e1
    rw [updL_eq] at hx
    cases hx
    rw [updL_ne (Ne.symm hne)] at hy
    rcases puR_free J hc hy hzc (rl := rl) (b := a) with h | h
    · exact Or.inr h
    · exact Or.inl h
  · rw [updL_ne e1] at hx
    by_cases e2 : c = b
    · subst e2
      rw [updL_eq] at hy
      cases hy
      exact puR_free J ha hx hza
    · rw [updL_ne e2] at hy
      exact J a c ha hc hne x y hx hy hza hzc
theorem dj_over {P : Nat → Nat → Int32} {L : Nat → Option Nat} (J : dj P L) {w v : Nat} (hv : v < 12) (hz : ¬ zS P v < zS P w) : dj P (updL (updL L w (L v)) v none) := by
  intro a c ha hc hne x y hx hy hza hzc
  have ea : a ≠ v := fun e => by subst e; rw [updL_eq] at hx; cases hx
  have ec : c ≠ v := fun e => by subst e; rw [updL_eq] at hy; cases hy
  rw [updL_ne ea] at hx
  rw [updL_ne ec] at hy
  by_cases e1 : a = w
  · subst e1
    rw [updL_eq] at hx
    rw [updL_ne (Ne.symm hne)] at hy
    have := J v c hv hc (Ne.symm ec) x y hx hy (by omega) hzc
    omega
  · rw [updL_ne e1] at hx
    by_cases e2 : c = w
    · subst e2
      rw [updL_eq] at hy
      have := J a v ha hv ea x y hx hy hza (by omega)
      omega
    · rw [updL_ne e2] at hy
      exact J a c ha hc hne x y hx hy hza hzc
theorem dj_wr {P : Nat → Nat → Int32} {L : Nat → Option Nat} (J : dj P L) {rl w : Nat} {ov : Option Nat} (hv : ∀ v, ov = some v → v < 12) : dj P (wrL P L rl w ov) := by
  unfold wrL
  cases ov with
  | none => exact dj_put J
  | some v =>
    simp only
    split
    · exact dj_put J
    · rename_i h
      exact dj_over J (hv v rfl) h
theorem dj_sub {P : Nat → Nat → Int32} {L L' : Nat → Option Nat} (J : dj P L) (h : ∀ b x, L' b = some x → L b = some x) : dj P L' := fun a c ha hc hne x y hx hy hza hzc => J a c ha hc hne x y (h a x hx) (h c y hy) hza hzc
theorem dj_re {P : Nat → Nat → Int32} {o : Nat → Nat} {L : Nat → Option Nat} {p : Nat} (J : dj P L) : dj P (reL P o L p) := dj_sub J (fun b x h => by
  unfold reL at h
  cases ht : ti P o b with
  | none => rw [ht] at h; cases h
  | some t =>
    rw [ht] at h
    simp only at h
    split at h
    · exact h
    · cases h)
theorem dj_gv {P : Nat → Nat → Int32} {o : Nat → Nat} {L : Nat → Option Nat} {rl : Nat} (J : dj P L) : ∀ {n : Nat}, dj P (gvF P o L rl n) := by
  intro n
  induction n with
  | zero => exact J
  | succ n ih =>
    rw [gvF]
    split
    · exact dj_put ih
    · exact ih
theorem dj_none {P : Nat → Nat → Int32} {L : Nat → Option Nat} (h : ∀ b, b < 12 → L b = none) : dj P L := fun a _ ha _ _ x _ hx _ _ _ => by rw [h a ha] at hx; cases hx
theorem dj_st {P : Nat → Nat → Int32} {o : Nat → Nat} {rl p : Nat} {L : Nat → Option Nat} (J : dj P L) : dj P (stL P o rl L p) := by
  have hov : ∀ v, mOv P o p = some v → v < 12 := fun v hv => (mOvN_ok hv).1
  unfold stL
  split
  · exact dj_wr (dj_gv J) hov
  · exact dj_wr J hov
theorem dj_go {P : Nat → Nat → Int32} {o : Nat → Nat} {rl hi p : Nat} {L : Nat → Option Nat} (J : dj P L) : ∀ {n : Nat}, dj P (goF P o rl L hi p n).1 := by
  intro n
  induction n with
  | zero => exact J
  | succ n ih => exact dj_re (dj_st ih)
/-! moved DOWN, nothing shares a cell -/
theorem lwB_none {L : Nat → Option Nat} {D : Nat} : ∀ {n : Nat}, lwB L D n = none → ∀ b, b < n → L b ≠ none → tb D b = true := by
  intro n
  induction n with
  | zero => intro _ b hb; omega
  | succ n ih =>
    intro h b hb hL
    rw [lwB] at h
    by_cases e : b = n
    · subst e
      cases hx : L b with
      | none => exact absurd hx hL
      | some y =>
        rw [hx] at h
        simp only at h
        split at h
        · cases h
        · rename_i g
          rw [h] at g
          unfold lwC at g
          simp only [Bool.and_true] at g
          cases hq : tb D b with
          | true => rfl
          | false => rw [hq] at g; simp at g
    · cases hx : L n with
      | none =>
        rw [hx] at h
        exact ih h b (by omega) hL
      | some y =>
        rw [hx] at h
        simp only at h
        split at h
        · cases h
        · exact ih h b (by omega) hL
theorem cp_dj {P : Nat → Nat → Int32} {L : Nat → Option Nat} : ∀ {n : Nat}, n ≤ 12 → (lwB (cpF P L n).1 (cpF P L n).2.1 12 = none ∨ cntB (cpF P L n).2.1 12 = n) ∧ (∀ a x, a < 12 → tb (cpF P L n).2.1 a = true → (cpF P L n).1 a = some x → x + zS P a ≤ (cpF P L n).2.2.1) ∧ ∀ a b, a < 12 → b < 12 → a ≠ b → tb (cpF P L n).2.1 a = true → tb (cpF P L n).2.1 b = true → ∀ x y, (cpF P L n).1 a = some x → (cpF P L n).1 b = some y → x + zS P a ≤ y ∨ y + zS P b ≤ x := by
  intro n
  induction n with
  | zero =>
    intro _
    refine ⟨Or.inr cntB_0, fun a x _ h => ?_, fun a b _ _ _ h => ?_⟩
    · rw [show (cpF P L 0).2.1 = 0 from rfl, tb_0] at h; cases h
    · rw [show (cpF P L 0).2.1 = 0 from rfl, tb_0] at h; cases h
  | succ n ih =>
    intro hn
    obtain ⟨h1, h2, h3⟩ := ih (by omega)
    rw [cpF]
    unfold cpS
    cases hq : lwB (cpF P L n).1 (cpF P L n).2.1 12 with
    | none => exact ⟨Or.inl hq, h2, h3⟩
    | some b =>
      obtain ⟨hb, hbt, y0, hy0⟩ := lwB_ok hq
      simp only
      refine ⟨Or.inr ?_, ?_, ?_⟩
      · rw [cntB_or hbt, if_pos hb]
        rcases h1 with h1 | h1
        · rw [h1] at hq; cases hq
        · rw [h1]
      · intro a x ha ht hx
        by_cases e : a = b
        · subst e
          rw [updL_eq] at hx
          cases hx
          omega
        · rw [updL_ne e] at hx
          rw [tb_or, Bool.or_eq_true, decide_eq_true_iff] at ht
          have := h2 a x ha (ht.resolve_right e) hx
          omega
      · intro a c ha hc hne hta htc x y hx hy
        rw [tb_or, Bool.or_eq_true, decide_eq_true_iff] at hta htc
        by_cases e : a = b
        · subst e
          rw [updL_eq] at hx
          rw [updL_ne (Ne.symm hne)] at hy
          cases hx
          have := h2 c y hc (htc.resolve_right (Ne.symm hne)) hy
          exact Or.inr this
        · rw [updL_ne e] at hx
          by_cases e2 : c = b
          · subst e2
            rw [updL_eq] at hy
            cases hy
            exact Or.inl (h2 a x ha (hta.resolve_right e) hx)
          · rw [updL_ne e2] at hy
            exact h3 a c ha hc hne (hta.resolve_right e) (htc.resolve_right e2) x y hx hy
theorem dj_cp {P : Nat → Nat → Int32} {L : Nat → Option Nat} : dj P (cpF P L 12).1 := by
  obtain ⟨h1, _, h3⟩ := cp_dj (P := P) (L := L) (Nat.le_refl 12)
  have all : ∀ a x, a < 12 → (cpF P L 12).1 a = some x → tb (cpF P L 12).2.1 a = true := by
    intro a x ha hx
    rcases h1 with h1 | h1
    · exact lwB_none h1 a ha (by rw [hx]; simp)
    · exact cntB_all h1 a ha
  intro a c ha hc hne x y hx hy _ _
  exact h3 a c ha hc hne (all a x ha hx) (all c y hc hy) x y hx hy
/-- a stop of the moving stays a stop -/
theorem cp_stop {P : Nat → Nat → Int32} {L : Nat → Option Nat} {n : Nat} (h : lwB (cpF P L n).1 (cpF P L n).2.1 12 = none) : ∀ j, cpF P L (n + j) = cpF P L n := by
  intro j
  induction j with
  | zero => rfl
  | succ j ih =>
    show cpS P (cpF P L (n + j)) = cpF P L n
    rw [ih]
    unfold cpS
    rw [h]
theorem cp_none {P : Nat → Nat → Int32} {L : Nat → Option Nat} : ∀ {n b : Nat}, L b = none → (cpF P L n).1 b = none := by
  intro n
  induction n with
  | zero => intro b h; exact h
  | succ n ih =>
    intro b h
    have h2 := ih h
    rw [cpF]
    unfold cpS
    cases hq : lwB (cpF P L n).1 (cpF P L n).2.1 12 with
    | none => exact h2
    | some c =>
      obtain ⟨_, _, y, hy⟩ := lwB_ok hq
      simp only
      rw [updL_ne (fun e => by subst e; rw [hy] at h2; cases h2)]
      exact h2
