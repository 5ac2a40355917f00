/-! THE CLASS: what a program's arrays show, as a text is read -/
/-- the arrays at a program's object beside what the reference has told so far: N STEPS with what they READ, W with what they WRITE -/
def RG (G A : Nat → Nat → Int32) (N W : Nat) : Prop :=
  G 0 6 = nI N ∧
  (∀ b, b < 12 → G 1 b = A 69 b ∧ G 4 b = A 72 b ∧ G 5 b = oI (wrN A W b) ∧ G 6 b = nI (rdM A b N)) ∧
  (∀ b, b < 12 → ∀ k, k < ix (A 69 b) → G 2 (4 * b + k) = A 70 (4 * b + k) ∧ G 3 (4 * b + k) = A 71 (4 * b + k)) ∧
  (∀ s, s < N → G 7 s = A 73 s ∧ G 10 s = A 76 s ∧ ∀ k, k < nRc A s → G 11 (4 * s + k) = A 77 (4 * s + k)) ∧
  ∀ s, s < W → G 8 s = A 74 s ∧ G 9 s = A 75 s
theorem upA_ap {A : Nat → Nat → Int32} {o k o' k' : Nat} {v : Int32} : upA A o k v o' k' = if o' = o ∧ k' = k then v else A o' k' := by
  by_cases e : o' = o
  · subst e
    rw [upA_eq]
    by_cases e2 : k' = k
    · subst e2; rw [upd_eq, if_pos ⟨rfl, rfl⟩]
    · rw [upd_ne e2, if_neg (fun q => e2 q.2)]
  · rw [upA_ne e, if_neg (fun q => e q.1)]
theorem upA_no {A : Nat → Nat → Int32} {o k o' k' : Nat} {v : Int32} (h : o' ≠ o ∨ k' ≠ k) : upA A o k v o' k' = A o' k' := by
  rw [upA_ap, if_neg (by omega)]
theorem fst1_cg {p p' : Nat → Bool} : ∀ {n k : Nat}, (∀ i, k ≤ i → i < k + n → p i = p' i) → fst1 p n k = fst1 p' n k := by
  intro n
  induction n with
  | zero => intro k h; rfl
  | succ n ih =>
    intro k h
    rw [fst1, fst1, h k (Nat.le_refl _) (by omega), ih (fun i h1 h2 => h i (by omega) (by omega))]
theorem fst1_snoc {p : Nat → Bool} : ∀ {n k : Nat}, fst1 p (n + 1) k = (match fst1 p n k with
    | some x => some x
    | none => if p (k + n) = true then some (k + n) else none) := by
  intro n
  induction n with
  | zero => intro k; rw [fst1, fst1, fst1]; simp
  | succ n ih =>
    intro k
    rw [fst1, ih]
    rw [show k + 1 + n = k + (n + 1) by omega]
    by_cases e : p k = true
    · rw [if_pos e]; simp only [fst1, e, if_true]
    · rw [if_neg e]; simp only [fst1, e, if_false, Bool.false_eq_true]
theorem wrN_cg {A A' : Nat → Nat → Int32} {W b : Nat} (h : ∀ s, s < W → A' 75 s = A 75 s) : wrN A' W b = wrN A W b :=
  fst1_cg (fun i _ h2 => by rw [h i (by omega)])
theorem mRdB_cg {A A' : Nat → Nat → Int32} {s b : Nat} (h1 : A' 76 s = A 76 s) (h2 : ∀ k, k < nRc A s → A' 77 (4 * s + k) = A 77 (4 * s + k)) : mRdB A' s b = mRdB A s b := by
  unfold mRdB
  have : nRc A' s = nRc A s := by unfold nRc; rw [h1]
  rw [this, fst1_cg (p' := fun k => A 77 (4 * s + k) == nI b) (fun i _ h3 => by rw [h2 i (by omega)])]
theorem rdM_cg {A A' : Nat → Nat → Int32} {b : Nat} : ∀ {N : Nat}, (∀ s, s < N → A' 76 s = A 76 s ∧ ∀ k, k < nRc A s → A' 77 (4 * s + k) = A 77 (4 * s + k)) → rdM A' b N = rdM A b N := by
  intro N
  induction N with
  | zero => intro h; rfl
  | succ N ih =>
    intro h
    rw [rdM, rdM, ih (fun s hs => h s (by omega)), mRdB_cg (h N (by omega)).1 (h N (by omega)).2]
theorem wrN_succ {A : Nat → Nat → Int32} {W b : Nat} : wrN A (W + 1) b = (match wrN A W b with
    | some x => some x
    | none => if (A 75 W == nI b) = true then some W else none) := by
  unfold wrN
  rw [fst1_snoc, Nat.zero_add]
/-- two tellings that agree in what counts -/
def AG (A A' : Nat → Nat → Int32) (N : Nat) : Prop :=
  (∀ b, b < 12 → A' 68 b = A 68 b ∧ A' 69 b = A 69 b ∧ A' 72 b = A 72 b ∧ ∀ k, k < ix (A 69 b) → A' 70 (4 * b + k) = A 70 (4 * b + k) ∧ A' 71 (4 * b + k) = A 71 (4 * b + k)) ∧
  ∀ s, s < N → A' 73 s = A 73 s ∧ A' 74 s = A 74 s ∧ A' 75 s = A 75 s ∧ A' 76 s = A 76 s ∧ ∀ k, k < nRc A s → A' 77 (4 * s + k) = A 77 (4 * s + k)
theorem RG_c {G A A' : Nat → Nat → Int32} {N : Nat} (R : RG G A N N) (c1 : ∀ b, b < 12 → A' 69 b = A 69 b ∧ A' 72 b = A 72 b ∧ ∀ k, k < ix (A 69 b) → A' 70 (4 * b + k) = A 70 (4 * b + k) ∧ A' 71 (4 * b + k) = A 71 (4 * b + k)) (c2 : ∀ s, s < N → A' 73 s = A 73 s ∧ A' 74 s = A 74 s ∧ A' 75 s = A 75 s ∧ A' 76 s = A 76 s ∧ ∀ k, k < nRc A s → A' 77 (4 * s + k) = A 77 (4 * s + k)) : RG G A' N N := by
  obtain ⟨r1, r2, r3, r4, r5⟩ := R
  refine ⟨r1, fun b hb => ?_, fun b hb k hk => ?_, fun s hs => ?_, fun s hs => ?_⟩
  · obtain ⟨x1, x2, x3, x4⟩ := r2 b hb
    obtain ⟨y2, y3, y4⟩ := c1 b hb
    refine ⟨by rw [x1, y2], by rw [x2, y3], ?_, ?_⟩
    · rw [x3, wrN_cg (fun s hs => (c2 s hs).2.2.1)]
    · rw [x4, rdM_cg (fun s hs => ⟨(c2 s hs).2.2.2.1, (c2 s hs).2.2.2.2⟩)]
  · obtain ⟨y2, y3, y4⟩ := c1 b hb
    rw [y2] at hk
    rw [(y4 k hk).1, (y4 k hk).2]
    exact r3 b hb k hk
  · obtain ⟨x1, x2, x3⟩ := r4 s hs
    obtain ⟨y1, y2, y3, y4, y5⟩ := c2 s hs
    have : nRc A' s = nRc A s := by unfold nRc; rw [y4]
    rw [this]
    exact ⟨by rw [x1, y1], by rw [x2, y4], fun k hk => by rw [x3 k hk, y5 k hk]⟩
  · obtain ⟨y1, y2, y3, y4, y5⟩ := c2 s hs
    rw [y2, y3]
    exact r5 s hs
theorem RG_cg {G A A' : Nat → Nat → Int32} {N : Nat} (R : RG G A N N) (C : AG A A' N) : RG G A' N N := RG_c R (fun b hb => (C.1 b hb).2) C.2
theorem okW_cg {A A' : Nat → Nat → Int32} (W : okW A) (C : AG A A' (nS A)) (h65 : A' 65 4 = A 65 4) (h67 : ∀ j, j < 4 → bn (A' 67 j) 100) : okW A' := by
  obtain ⟨⟨v1, v2, v3, v4⟩, w2, w3⟩ := W
  obtain ⟨c1, c2⟩ := C
  have hS : nS A' = nS A := by unfold nS; rw [h65]
  refine ⟨⟨by rw [h65]; exact v1, fun b hb => ?_, fun s hs => ?_, h67⟩, fun b hb => ?_, fun s hs => ?_⟩
  · obtain ⟨x1, x2, x3, x4⟩ := v2 b hb
    obtain ⟨y1, y2, y3, y4⟩ := c1 b hb
    rw [y1, y2, y3]
    refine ⟨x1, x2, x3, fun k hk => ?_⟩
    rw [(y4 k hk).1, (y4 k hk).2]
    exact x4 k hk
  · rw [h65] at hs
    obtain ⟨x1, x2, x3, x4, x5⟩ := v3 s hs
    obtain ⟨y1, y2, y3, y4, y5⟩ := c2 s hs
    rw [y1, y2, y3, y4]
    exact ⟨x1, x2, x3, x4, fun k hk => by rw [y5 k hk]; exact x5 k hk⟩
  · obtain ⟨y1, y2, y3, y4⟩ := c1 b hb
    unfold okT
    rw [y1, y2, y3]
    exact w2 b hb
  · rw [hS] at hs
    obtain ⟨x1, x2, x3, x4⟩ := w3 s hs
    obtain ⟨y1, y2, y3, y4, y5⟩ := c2 s hs
    obtain ⟨z1, z2, z3, z5, z6⟩ := v3 s hs
    have e1 : nWt A' s = nWt A s := by unfold nWt; rw [y3]
    have e2 : nRc A' s = nRc A s := by unfold nRc; rw [y4]
    have l1 : nWt A s < 12 := by obtain ⟨j, hj, e⟩ := bn_of z3; unfold nWt; rw [e, ix_nI (by omega)]; exact hj
    rw [e1, e2, (c1 _ l1).1, mRdB_cg y4 y5]
    refine ⟨x1, ?_, x3, fun k hk => ?_⟩
    · rw [← x2]
      unfold mWr
      rw [hS]
      exact wrN_cg (fun s hs => (c2 s hs).2.2.1)
    · have e3 : nRd A' s k = nRd A s k := by unfold nRd; rw [y5 k hk]
      have l2 : nRd A s k < 12 := by obtain ⟨j, hj, e⟩ := bn_of (z6 k hk); unfold nRd; rw [e, ix_nI (by omega)]; exact hj
      rw [e3, (c1 _ l2).1]
      exact x4 k hk
theorem CP_of {h h' : abH} {q a : Nat} {x : Int32} {G A : Nat → Nat → Int32} {N : Nat} (R : RG G A N N) (e : ∀ k, k ≤ 11 → gI h' (q + k) = G k) : CPg h' q A N N := by
  obtain ⟨r1, r2, r3, r4, r5⟩ := R
  have e0 : gI h' q = G 0 := e 0 (by omega)
  refine ⟨by rw [e0]; exact r1, fun b hb => ?_, fun b hb k hk => ?_, fun s hs => ?_, fun s hs => ?_⟩
  · rw [e 1 (by omega), e 4 (by omega), e 5 (by omega), e 6 (by omega)]
    exact r2 b hb
  · rw [e 2 (by omega), e 3 (by omega)]
    exact r3 b hb k hk
  · rw [e 7 (by omega), e 10 (by omega), e 11 (by omega)]
    exact r4 s hs
  · rw [e 8 (by omega), e 9 (by omega)]
    exact r5 s hs
/-! one step of the reading on both sides -/
theorem RG_term {G A : Nat → Nat → Int32} {N W b n : Nat} {v l : Int32} (hb : b < 12) (hn : n < 4) (hT : ∀ c, c < 12 → ix (A 69 c) ≤ 4) (hN : ∀ s, s < N → nRc A s ≤ 4) (R : RG G (upA A 69 b (nI n)) N W) : RG (upA (upA (upA G 2 (4 * b + n) v) 3 (4 * b + n) l) 1 b (nI (n + 1))) (upA (upA (upA A 70 (4 * b + n) v) 71 (4 * b + n) l) 69 b (nI (n + 1))) N W := by
  obtain ⟨r1, r2, r3, r4, r5⟩ := R
  refine ⟨?_, fun c hc => ?_, fun c hc k hk => ?_, fun s hs => ?_, fun s hs => ?_⟩
  · simp (disch := omega) only [upA_no]; exact r1
  · obtain ⟨x1, x2, x3, x4⟩ := r2 c hc
    rw [wrN_cg (A := A) (fun s _ => by rw [upA_no (by omega)])] at x3
    rw [rdM_cg (A := A) (fun s _ => ⟨by rw [upA_no (by omega)], fun k _ => by rw [upA_no (by omega)]⟩)] at x4
    rw [wrN_cg (A := A) (fun s _ => by simp (disch := omega) only [upA_no])]
    rw [rdM_cg (A := A) (fun s _ => ⟨by simp (disch := omega) only [upA_no], fun k _ => by simp (disch := omega) only [upA_no]⟩)]
    by_cases e : c = b
    · subst e
      simp (disch := omega) only [upA_no, upA_at] at x2 ⊢
      exact ⟨trivial, x2, x3, x4⟩
    · simp (disch := omega) only [upA_no] at x1 x2 ⊢
      exact ⟨x1, x2, x3, x4⟩
  · by_cases e : c = b
    · subst e
      rw [upA_at, ix_nI (by omega)] at hk
      by_cases e2 : k = n
      · subst e2
        simp (disch := omega) only [upA_no, upA_at]
        exact ⟨trivial, trivial⟩
      · have := r3 c hc k (by rw [upA_at, ix_nI (by omega)]; omega)
        simp (disch := omega) only [upA_no] at this ⊢
        exact this
    · simp (disch := omega) only [upA_no] at hk
      have := hT c hc
      have := r3 c hc k (by rw [upA_no (by omega)]; exact hk)
      simp (disch := omega) only [upA_no] at this ⊢
      exact this
  · have := r4 s hs
    unfold nRc at this ⊢
    simp (disch := omega) only [upA_no] at this ⊢
    exact this
  · have := r5 s hs
    simp (disch := omega) only [upA_no] at this ⊢
    exact this
theorem RG_wt {G A : Nat → Nat → Int32} {N b : Nat} {x : Int32} (hb : b < 12) (R : RG G A N N) : RG (upA G 4 b x) (upA A 72 b x) N N := by
  obtain ⟨r1, r2, r3, r4, r5⟩ := R
  refine ⟨?_, fun c hc => ?_, fun c hc k hk => ?_, fun s hs => ?_, fun s hs => ?_⟩
  · simp (disch := omega) only [upA_no]; exact r1
  · obtain ⟨x1, x2, x3, x4⟩ := r2 c hc
    rw [wrN_cg (A := A) (fun s _ => by simp (disch := omega) only [upA_no])]
    rw [rdM_cg (A := A) (fun s _ => ⟨by simp (disch := omega) only [upA_no], fun k _ => by simp (disch := omega) only [upA_no]⟩)]
    by_cases e : c = b
    · subst e
      simp (disch := omega) only [upA_no, upA_at]
      exact ⟨x1, trivial, x3, x4⟩
    · simp (disch := omega) only [upA_no]
      exact ⟨x1, x2, x3, x4⟩
  · simp (disch := omega) only [upA_no] at hk ⊢
    exact r3 c hc k hk
  · have := r4 s hs
    unfold nRc at this ⊢
    simp (disch := omega) only [upA_no] at this ⊢
    exact this
  · have := r5 s hs
    simp (disch := omega) only [upA_no] at this ⊢
    exact this
theorem RG_sz {G A : Nat → Nat → Int32} {N b : Nat} {v : Int32} (h0 : A 72 b = nI 0) (R : RG G (upA A 69 b v) N N) : RG G (upA (upA (upA A 69 b v) 68 b (nI 1)) 72 b (nI 0)) N N := by
  refine RG_c R (fun c hc => ?_) (fun s hs => ?_)
  · simp (disch := omega) only [upA_no]
    refine ⟨trivial, ?_, fun k _ => ⟨trivial, trivial⟩⟩
    by_cases e : c = b
    · subst e; rw [upA_at, h0]
    · simp (disch := omega) only [upA_no]
  · simp (disch := omega) only [upA_no]
    exact ⟨trivial, trivial, trivial, trivial, fun _ _ => trivial⟩
theorem mRdB_0 {A : Nat → Nat → Int32} {s b : Nat} (h : A 76 s = nI 0) : mRdB A s b = false := by
  unfold mRdB nRc
  rw [h, ix_nI (by decide)]
  rfl
theorem mRdB_n {A : Nat → Nat → Int32} {s b n : Nat} (hn : n < 2 ^ 31) : mRdB (upA A 76 s (nI n)) s b = rdN A s n b := by
  unfold mRdB rdN nRc
  rw [upA_at, ix_nI hn]
  exact congrArg Option.isSome (fst1_cg (fun i _ _ => by rw [upA_no (by omega)]))
theorem rdN_succ {A : Nat → Nat → Int32} {s n b c : Nat} (hb : b < 12) (hc : c < 12) : rdN (upA A 77 (4 * s + n) (nI b)) s (n + 1) c = (rdN A s n c || b == c) := by
  unfold rdN
  rw [fst1_snoc, fst1_cg (p' := fun k => A 77 (4 * s + k) == nI c) (fun i _ h => by rw [upA_no (by omega)])]
  cases fst1 (fun k => A 77 (4 * s + k) == nI c) n 0 with
  | some x => rfl
  | none =>
    simp only [Nat.zero_add, upA_at]
    by_cases e : b = c
    · subst e; simp
    · have : (nI b == nI c) = false := beq_eq_false_iff_ne.mpr (fun q => e ((nI_eq (by omega) (by omega)).mp q))
      rw [this]
      simp [e]
theorem RG_add {G A : Nat → Nat → Int32} {s : Nat} {k : Int32} (R : RG G A s s) : RG (upA (upA (upA G 7 s k) 10 s (nI 0)) 0 6 (nI (s + 1))) (upA (upA A 73 s k) 76 s (nI 0)) (s + 1) s := by
  obtain ⟨r1, r2, r3, r4, r5⟩ := R
  refine ⟨upA_at, fun c hc => ?_, fun c hc k hk => ?_, fun t ht => ?_, fun t ht => ?_⟩
  · obtain ⟨x1, x2, x3, x4⟩ := r2 c hc
    rw [wrN_cg (A := A) (fun s _ => by simp (disch := omega) only [upA_no])]
    rw [rdM, mRdB_0 upA_at, if_neg (by decide), rdM_cg (A := A) (fun s _ => ⟨by simp (disch := omega) only [upA_no], fun k _ => by simp (disch := omega) only [upA_no]⟩)]
    simp (disch := omega) only [upA_no]
    exact ⟨x1, x2, x3, x4⟩
  · simp (disch := omega) only [upA_no] at hk ⊢
    exact r3 c hc k hk
  · by_cases e : t = s
    · subst e
      unfold nRc
      simp (disch := omega) only [upA_no, upA_at]
      refine ⟨trivial, trivial, fun k hk => ?_⟩
      rw [ix_nI (by omega)] at hk
      omega
    · have := r4 t (by omega)
      unfold nRc at this ⊢
      simp (disch := omega) only [upA_no] at this ⊢
      exact this
  · have := r5 t ht
    simp (disch := omega) only [upA_no] at this ⊢
    exact this
theorem RG_read {G A : Nat → Nat → Int32} {s n b : Nat} (hb : b < 12) (hn : n < 4) (hN : ∀ t, t < s → nRc A t ≤ 4) (h0 : rdN A s n b = false) (R : RG G (upA A 76 s (nI n)) (s + 1) s) : RG (upA (upA (upA G 11 (4 * s + n) (nI b)) 10 s (nI (n + 1))) 6 b (nI (rdM (upA A 76 s (nI n)) b (s + 1) ||| 2 ^ s))) (upA (upA A 77 (4 * s + n) (nI b)) 76 s (nI (n + 1))) (s + 1) s := by
  obtain ⟨r1, r2, r3, r4, r5⟩ := R
  have e1 : ∀ c, rdM (upA A 76 s (nI n)) c s = rdM A c s := fun c => rdM_cg (fun t _ => ⟨by simp (disch := omega) only [upA_no], fun k _ => by simp (disch := omega) only [upA_no]⟩)
  have e2 : ∀ c, rdM (upA (upA A 77 (4 * s + n) (nI b)) 76 s (nI (n + 1))) c s = rdM A c s := fun c => rdM_cg (fun t ht => by
    have := hN t ht
    exact ⟨by simp (disch := omega) only [upA_no], fun k hk => by simp (disch := omega) only [upA_no]⟩)
  refine ⟨?_, fun c hc => ?_, fun c hc k hk => ?_, fun t ht => ?_, fun t ht => ?_⟩
  · simp (disch := omega) only [upA_no]; exact r1
  · obtain ⟨x1, x2, x3, x4⟩ := r2 c hc
    rw [wrN_cg (A := A) (fun s _ => by simp (disch := omega) only [upA_no])] at x3 ⊢
    rw [rdM, mRdB_n (by omega), e1] at x4
    rw [rdM, mRdB_n (by omega), e1, h0, if_neg (by decide), rdM, mRdB_n (by omega), e2, rdN_succ hb hc]
    by_cases e : c = b
    · subst e
      simp (disch := omega) only [upA_no, upA_at] at x1 x2 ⊢
      refine ⟨x1, x2, x3, ?_⟩
      simp
    · have : (b == c) = false := beq_eq_false_iff_ne.mpr (Ne.symm e)
      rw [this, Bool.or_false]
      simp (disch := omega) only [upA_no] at x1 x2 ⊢
      exact ⟨x1, x2, x3, x4⟩
  · simp (disch := omega) only [upA_no] at hk ⊢
    exact r3 c hc k (by rw [upA_no (by omega)]; exact hk)
  · have := r4 t ht
    unfold nRc at this ⊢
    by_cases e : t = s
    · subst e
      simp (disch := omega) only [upA_no, upA_at] at this ⊢
      refine ⟨this.1, trivial, fun k hk => ?_⟩
      rw [ix_nI (by omega)] at hk this
      by_cases e2 : k = n
      · subst e2; rw [upA_at, upA_at]
      · simp (disch := omega) only [upA_no]
        exact this.2.2 k (by omega)
    · have h4 := hN t (by omega)
      unfold nRc at h4
      simp (disch := omega) only [upA_no] at this ⊢
      refine ⟨this.1, this.2.1, fun k hk => ?_⟩
      have := this.2.2 k hk
      simp (disch := omega) only [upA_no] at this ⊢
      exact this
  · have := r5 t ht
    simp (disch := omega) only [upA_no] at this ⊢
    exact this
theorem RG_write {G A : Nat → Nat → Int32} {s b : Nat} {x y : Int32} (hb : b < 12) (h0 : wrN A s b = none) (R : RG G A (s + 1) s) : RG (upA (upA (upA G 9 s (nI b)) 5 b (nI s)) 8 s x) (upA (upA (upA A 75 s (nI b)) 74 s x) 65 4 y) (s + 1) (s + 1) := by
  obtain ⟨r1, r2, r3, r4, r5⟩ := R
  refine ⟨?_, fun c hc => ?_, fun c hc k hk => ?_, fun t ht => ?_, fun t ht => ?_⟩
  · simp (disch := omega) only [upA_no]; exact r1
  · obtain ⟨x1, x2, x3, x4⟩ := r2 c hc
    rw [wrN_succ, wrN_cg (A := A) (fun s _ => by simp (disch := omega) only [upA_no])]
    rw [rdM_cg (A := A) (fun s _ => ⟨by simp (disch := omega) only [upA_no], fun k _ => by simp (disch := omega) only [upA_no]⟩)]
    by_cases e : c = b
    · subst e
      rw [h0]
      simp (disch := omega) only [upA_no, upA_at]
      refine ⟨x1, x2, ?_, x4⟩
      simp [oI]
    · have : (nI b == nI c) = false := beq_eq_false_iff_ne.mpr (fun q => e ((nI_eq (by omega) (by omega)).mp q).symm)
      simp (disch := omega) only [upA_no, upA_at, this]
      refine ⟨x1, x2, ?_, x4⟩
      rw [x3]
      cases wrN A s c <;> rfl
  · simp (disch := omega) only [upA_no] at hk ⊢
    exact r3 c hc k hk
  · have := r4 t ht
    unfold nRc at this ⊢
    simp (disch := omega) only [upA_no] at this ⊢
    exact this
  · by_cases e : t = s
    · subst e
      simp (disch := omega) only [upA_no, upA_at]
      exact ⟨trivial, trivial⟩
    · have := r5 t (by omega)
      simp (disch := omega) only [upA_no] at this ⊢
      exact this
theorem okW.t4 {A : Nat → Nat → Int32} (W : okW A) : ∀ c, c < 12 → ix (A 69 c) ≤ 4 := by
  intro c hc
  obtain ⟨t, ht, et⟩ := bn_of (W.1.2.1 c hc).1
  rw [et, ix_nI (by omega)]
  omega
theorem okW.r4 {A : Nat → Nat → Int32} (W : okW A) : ∀ t, t < nS A → nRc A t ≤ 4 := by
  intro t ht
  obtain ⟨x, hx, ex⟩ := bn_of (W.1.2.2.1 t ht).2.2.2.1
  unfold nRc
  rw [ex, ix_nI (by omega)]
  omega
theorem okW.s10 {A : Nat → Nat → Int32} (W : okW A) : nS A ≤ 10 ∧ A 65 4 = nI (nS A) := by
  obtain ⟨x, hx, ex⟩ := bn_of W.1.1
  unfold nS
  rw [ex, ix_nI (by omega)]
  exact ⟨by omega, rfl⟩
theorem okW_bg {B : Nat → Nat → Int32} (h67 : ∀ j, j < 4 → bn (B 67 j) 100) : okW (bgA B 12) := by
  have hS : nS (bgA B 12) = 0 := by
    unfold nS bgA
    simp only [show ¬ (65 = 68 ∨ 65 = 69 ∨ 65 = 72) by decide, if_false, if_true, upd_eq]
    exact ix_nI (by decide)
  have e4 : bgA B 12 65 4 = nI 0 := by
    unfold bgA
    simp only [show ¬ (65 = 68 ∨ 65 = 69 ∨ 65 = 72) by decide, if_false, if_true, upd_eq]
  have z : ∀ o b, o = 68 ∨ o = 69 ∨ o = 72 → b < 12 → bgA B 12 o b = nI 0 := by
    intro o b ho hb
    unfold bgA
    rw [if_pos ho, pre_in hb]
  have z6 : ix (nI 0) = 0 := ix_nI (by decide)
  refine ⟨⟨?_, fun b hb => ?_, fun s hs => ?_, fun j hj => ?_⟩, fun b hb => ?_, fun s hs => ?_⟩
  · rw [e4]; exact bn_nI (by decide) (by decide)
  · rw [z 69 b (by simp) hb, z 68 b (by simp) hb, z 72 b (by simp) hb, z6]
    exact ⟨bn_nI (by decide) (by decide), Or.inl rfl, Or.inl rfl, fun k hk => by omega⟩
  · rw [e4, z6] at hs; omega
  · have : bgA B 12 67 = B 67 := by
      unfold bgA
      simp only [show ¬ (67 = 68 ∨ 67 = 69 ∨ 67 = 72) by decide, show ¬ (67 = 65) by decide, if_false]
    rw [this]
    exact h67 j hj
  · unfold okT
    rw [z 69 b (by simp) hb, z 68 b (by simp) hb, z 72 b (by simp) hb]
    exact ⟨fun _ => ⟨rfl, rfl⟩, fun q => absurd rfl q⟩
  · rw [hS] at hs; omega
/-- TERMS that are told well -/
def okM (A : Nat → Nat → Int32) (b m : Nat) : Prop := ∀ k, k < m → (A 71 (4 * b + k) = -1 ∨ bn (A 71 (4 * b + k)) 4) ∧ bn (A 70 (4 * b + k)) 100
theorem nI1n : nI 1 ≠ 0 := by decide
theorem okW_sz {A : Nat → Nat → Int32} (W : okW A) {b m : Nat} (hm : 0 < m) (hm4 : m ≤ 4) (M : okM A b m) : okW (upA (upA (upA A 69 b (nI m)) 68 b (nI 1)) 72 b (nI 0)) := by
  obtain ⟨⟨v1, v2, v3, v4⟩, w2, w3⟩ := W
  unfold okW okP okT
  have hS : nS (upA (upA (upA A 69 b (nI m)) 68 b (nI 1)) 72 b (nI 0)) = nS A := by unfold nS; simp (disch := omega) only [upA_no]
  have hM : ∀ c, mWr (upA (upA (upA A 69 b (nI m)) 68 b (nI 1)) 72 b (nI 0)) c = mWr A c := by
    intro c
    unfold mWr
    rw [hS]
    exact wrN_cg (fun s _ => by simp (disch := omega) only [upA_no])
  have h68 : ∀ c, A 68 c ≠ 0 → upA A 68 b (nI 1) 68 c ≠ 0 := by
    intro c hc
    rw [upA_ap]
    split
    · exact nI1n
    · exact hc
  refine ⟨⟨?_, fun c hc => ?_, fun s hs => ?_, fun j hj => ?_⟩, fun c hc => ?_, fun s hs => ?_⟩
  · simp (disch := omega) only [upA_no]; exact v1
  · by_cases e : c = b
    · subst e
      simp (disch := omega) only [upA_no, upA_at]
      rw [ix_nI (by omega)]
      exact ⟨bn_nI (by omega) (by omega), Or.inr rfl, Or.inl rfl, M⟩
    · simp (disch := omega) only [upA_no]
      exact v2 c hc
  · simp (disch := omega) only [upA_no] at hs ⊢
    exact v3 s hs
  · simp (disch := omega) only [upA_no]
    exact v4 j hj
  · by_cases e : c = b
    · subst e
      simp (disch := omega) only [upA_no, upA_at]
      refine ⟨fun q => absurd q nI1n, fun _ q => ?_⟩
      have := (nI_eq (by omega) (by omega)).mp q
      omega
    · simp (disch := omega) only [upA_no]
      exact w2 c hc
  · rw [hS] at hs
    obtain ⟨x1, x2, x3, x4⟩ := w3 s hs
    have e0 : mRdB (upA (upA (upA A 69 b (nI m)) 68 b (nI 1)) 72 b (nI 0)) s (nWt A s) = mRdB A s (nWt A s) := mRdB_cg (by simp (disch := omega) only [upA_no]) (fun k _ => by simp (disch := omega) only [upA_no])
    have e1 : nWt (upA (upA (upA A 69 b (nI m)) 68 b (nI 1)) 72 b (nI 0)) s = nWt A s := by unfold nWt; simp (disch := omega) only [upA_no]
    have e2 : nRc (upA (upA (upA A 69 b (nI m)) 68 b (nI 1)) 72 b (nI 0)) s = nRc A s := by unfold nRc; simp (disch := omega) only [upA_no]
    have e3 : ∀ k, nRd (upA (upA (upA A 69 b (nI m)) 68 b (nI 1)) 72 b (nI 0)) s k = nRd A s k := by intro k; unfold nRd; simp (disch := omega) only [upA_no]
    have e4 : ∀ c, upA (upA (upA A 69 b (nI m)) 68 b (nI 1)) 72 b (nI 0) 68 c = upA A 68 b (nI 1) 68 c := by
      intro c
      rw [upA_no (by omega)]
      by_cases e : c = b
      · subst e; rw [upA_at, upA_at]
      · simp (disch := omega) only [upA_no]
    rw [e1, e2, hM, e0, e4]
    refine ⟨h68 _ x1, x2, x3, fun k hk => ?_⟩
    rw [e3, e4]
    exact h68 _ (x4 k hk)
theorem okW_wt {A : Nat → Nat → Int32} (W : okW A) {b : Nat} {x : Int32} (h : A 68 b ≠ 0) (hx : b01 x) : okW (upA A 72 b x) := by
  obtain ⟨⟨v1, v2, v3, v4⟩, w2, w3⟩ := W
  unfold okW okP okT
  have hS : nS (upA A 72 b x) = nS A := by unfold nS; simp (disch := omega) only [upA_no]
  have hM : ∀ c, mWr (upA A 72 b x) c = mWr A c := by
    intro c
    unfold mWr
    rw [hS]
    exact wrN_cg (fun s _ => by simp (disch := omega) only [upA_no])
  refine ⟨⟨?_, fun c hc => ?_, fun s hs => ?_, fun j hj => ?_⟩, fun c hc => ?_, fun s hs => ?_⟩
  · simp (disch := omega) only [upA_no]; exact v1
  · by_cases e : c = b
    · subst e
      simp (disch := omega) only [upA_no, upA_at]
      exact ⟨(v2 c hc).1, (v2 c hc).2.1, hx, (v2 c hc).2.2.2⟩
    · simp (disch := omega) only [upA_no]
      exact v2 c hc
  · simp (disch := omega) only [upA_no] at hs ⊢
    exact v3 s hs
  · simp (disch := omega) only [upA_no]
    exact v4 j hj
  · by_cases e : c = b
    · subst e
      simp (disch := omega) only [upA_no, upA_at]
      exact ⟨fun q => absurd q h, (w2 c hc).2⟩
    · simp (disch := omega) only [upA_no]
      exact w2 c hc
  · rw [hS] at hs
    obtain ⟨x1, x2, x3, x4⟩ := w3 s hs
    have e0 : mRdB (upA A 72 b x) s (nWt A s) = mRdB A s (nWt A s) := mRdB_cg (by simp (disch := omega) only [upA_no]) (fun k _ => by simp (disch := omega) only [upA_no])
    have e1 : nWt (upA A 72 b x) s = nWt A s := by unfold nWt; simp (disch := omega) only [upA_no]
    have e2 : nRc (upA A 72 b x) s = nRc A s := by unfold nRc; simp (disch := omega) only [upA_no]
    have e3 : ∀ k, nRd (upA A 72 b x) s k = nRd A s k := by intro k; unfold nRd; simp (disch := omega) only [upA_no]
    rw [e1, e2, hM, e0, upA_no (by omega)]
    refine ⟨x1, x2, x3, fun k hk => ?_⟩
    rw [e3, upA_no (by omega)]
    exact x4 k hk
theorem okW_st {A : Nat → Nat → Int32} (W : okW A) {s n b t : Nat} (hs : nS A = s) (hs2 : s < 10) (hk : bn (A 73 s) 6) (hn : n ≤ 4) (h76 : A 76 s = nI n) (hr : ∀ k, k < n → bn (A 77 (4 * s + k)) 12 ∧ A 68 (nRd A s k) ≠ 0) (hb : b < 12) (h68 : A 68 b ≠ 0) (hw : mWr A b = none) (hd : rdN A s n b = false) (ht : t < 100) : okW (upA (upA (upA A 75 s (nI b)) 74 s (nI t)) 65 4 (nI (s + 1))) := by
  obtain ⟨⟨v1, v2, v3, v4⟩, w2, w3⟩ := W
  generalize hA' : upA (upA (upA A 75 s (nI b)) 74 s (nI t)) 65 4 (nI (s + 1)) = A'
  have c1 : ∀ o k, o ≠ 65 → o ≠ 74 → o ≠ 75 → A' o k = A o k := by
    intro o k h1 h2 h3
    rw [← hA']
    simp (disch := omega) only [upA_no]
  have c2 : ∀ i, i < s → A' 74 i = A 74 i ∧ A' 75 i = A 75 i := by
    intro i hi
    rw [← hA']
    simp (disch := omega) only [upA_no]
    exact ⟨trivial, trivial⟩
  have c3 : A' 74 s = nI t ∧ A' 75 s = nI b := by
    rw [← hA']
    simp (disch := omega) only [upA_no, upA_at]
    exact ⟨trivial, trivial⟩
  have c4 : A' 65 4 = nI (s + 1) := by rw [← hA', upA_at]
  have hS : nS A' = s + 1 := by unfold nS; rw [c4, ix_nI (by omega)]
  have c5 : ∀ i b, mRdB A' i b = mRdB A i b := fun i b => mRdB_cg (c1 _ _ (by decide) (by decide) (by decide)) (fun k _ => c1 _ _ (by decide) (by decide) (by decide))
  have c6 : ∀ i, nRc A' i = nRc A i := by intro i; unfold nRc; rw [c1 _ _ (by decide) (by decide) (by decide)]
  have c7 : ∀ i k, nRd A' i k = nRd A i k := by intro i k; unfold nRd; rw [c1 _ _ (by decide) (by decide) (by decide)]
  have hx : ix (A 65 4) = s := hs
  refine ⟨⟨?_, fun c hc => ?_, fun i hi => ?_, fun j hj => ?_⟩, fun c hc => ?_, fun i hi => ?_⟩
  · rw [c4]; exact bn_nI (by omega) (by omega)
  · rw [c1 69 _ (by decide) (by decide) (by decide), c1 68 _ (by decide) (by decide) (by decide), c1 72 _ (by decide) (by decide) (by decide)]
    refine ⟨(v2 c hc).1, (v2 c hc).2.1, (v2 c hc).2.2.1, fun k hk => ?_⟩
    rw [c1 71 _ (by decide) (by decide) (by decide), c1 70 _ (by decide) (by decide) (by decide)]
    exact (v2 c hc).2.2.2 k hk
  · rw [c4, ix_nI (by omega)] at hi
    rw [c1 73 _ (by decide) (by decide) (by decide), c1 76 _ (by decide) (by decide) (by decide)]
    by_cases e : i = s
    · subst e
      rw [c3.1, c3.2, h76, ix_nI (by omega)]
      refine ⟨hk, bn_nI (by omega) (by omega), bn_nI (by omega) (by omega), bn_nI (by omega) (by omega), fun k hk => ?_⟩
      rw [c1 77 _ (by decide) (by decide) (by decide)]
      exact (hr k hk).1
    · have := v3 i (by omega)
      rw [(c2 i (by omega)).1, (c2 i (by omega)).2]
      refine ⟨this.1, this.2.1, this.2.2.1, this.2.2.2.1, fun k hk => ?_⟩
      rw [c1 77 _ (by decide) (by decide) (by decide)]
      exact this.2.2.2.2 k hk
  · rw [c1 67 _ (by decide) (by decide) (by decide)]; exact v4 j hj
  · unfold okT
    rw [c1 69 _ (by decide) (by decide) (by decide), c1 68 _ (by decide) (by decide) (by decide), c1 72 _ (by decide) (by decide) (by decide)]
    exact w2 c hc
  · rw [hS] at hi
    have hm : ∀ c, c < 12 → mWr A' c = (match mWr A c with
      | some x => some x
      | none => if (b == c) = true then some s else none) := by
      intro c hc
      show wrN A' (nS A') c = _
      rw [hS, wrN_succ, wrN_cg (A := A) (fun i hi => (c2 i hi).2), c3.2]
      have : wrN A s c = mWr A c := by unfold mWr wrN; rw [hs]
      rw [this]
      have : (nI b == nI c) = (b == c) := by
        by_cases e : b = c
        · subst e; simp
        · rw [beq_eq_false_iff_ne.mpr (fun q => e ((nI_eq (by omega) (by omega)).mp q)), beq_eq_false_iff_ne.mpr e]
      rw [this]
    rw [c6, c5]
    by_cases e : i = s
    · subst e
      have e1 : nWt A' i = b := by unfold nWt; rw [c3.2, ix_nI (by omega)]
      have e2 : nRc A i = n := by unfold nRc; rw [h76, ix_nI (by omega)]
      rw [e1, e2, hm b hb, hw, c1 68 _ (by decide) (by decide) (by decide)]
      refine ⟨h68, by simp, ?_, fun k hk => ?_⟩
      · rw [← hd]
        unfold mRdB rdN
        rw [e2]
      · rw [c7, c1 68 _ (by decide) (by decide) (by decide)]
        exact (hr k hk).2
    · have hi2 : i < s := by omega
      obtain ⟨x1, x2, x3, x4⟩ := w3 i (by omega)
      have e1 : nWt A' i = nWt A i := by unfold nWt; rw [(c2 i hi2).2]
      have l1 : nWt A i < 12 := by obtain ⟨j, hj, e⟩ := bn_of (v3 i (by omega)).2.2.1; unfold nWt; rw [e, ix_nI (by omega)]; exact hj
      rw [e1, hm _ l1, x2, c1 68 _ (by decide) (by decide) (by decide)]
      refine ⟨x1, rfl, x3, fun k hk => ?_⟩
      rw [c7, c1 68 _ (by decide) (by decide) (by decide)]
      exact x4 k hk
