/-! THE CLASS AND THE REFERENCE: what holds between them -/
/-- what is set anew, call by call, in the class -/
def dT : Nat → Nat → Prop := fun o k => (o = 3 ∧ k = 4) ∨ (o = 42 ∧ k ≤ 1) ∨ (o = 46 ∧ (k = 1 ∨ k = 2)) ∨ (o = 47 ∧ k = 0)
def rT : Nat → Nat → Prop := fun o k => ((o = 3 ∧ k = 4) ∨ (o = 42 ∧ k ≤ 1) ∨ (o = 46 ∧ (k = 1 ∨ k = 2)) ∨ (o = 47 ∧ k = 0)) ∨ (o = 29 ∧ k = 1) ∨ (o = 30 ∧ k = 0)
def pT : Nat → Nat → Prop := fun o k => ((o = 3 ∧ k = 4) ∨ (o = 42 ∧ k ≤ 1) ∨ (o = 46 ∧ (k = 1 ∨ k = 2)) ∨ (o = 47 ∧ k = 0)) ∨ (o = 29 ∧ k = 1) ∨ (o = 30 ∧ k = 0) ∨ (o = 2 ∧ (k = 1 ∨ k = 2))
theorem pT_C : ∀ e ∈ KCR, ¬ pT e.1 e.2.1 := by unfold pT; decide
theorem pT_M : ∀ e ∈ KMR, ¬ pT e.1 e.2.1 := by unfold pT; decide
theorem Fr_pT {S : Nat → Nat → Prop} {h h' : abH} (F : Fr S dT h h') : Fr S pT h h' := Fr_mono F (fun _ _ q => q) (fun o k q => by unfold dT at q; unfold pT; omega)
theorem Fr_rp {S : Nat → Nat → Prop} {h h' : abH} (F : Fr S rT h h') : Fr S pT h h' := Fr_mono F (fun _ _ q => q) (fun o k q => by unfold rT at q; unfold pT; omega)
theorem Fr_dr {S : Nat → Nat → Prop} {h h' : abH} (F : Fr S dT h h') : Fr S rT h h' := Fr_mono F (fun _ _ q => q) (fun o k q => by unfold dT at q; unfold rT; omega)
/-- what the script and the fixed objects are -/
def R1 (hs h : abH) : Prop := h.1 = hs.1 ∧ gI h 0 = gI hs 0 ∧ KC h ∧ KM h ∧ AB h
def D1 : Nat → Nat → Prop := fun o _ => o ≤ 1
theorem R1_fr {hs h h' : abH} {S : Nat → Nat → Prop} (F : Fr S pT h h') (hD : ∀ o k, D1 o k → ¬ S o k) (R : R1 hs h) : R1 hs h' := by
  obtain ⟨a1, a2, a3, a4, a5⟩ := R
  have e : ∀ o k, o ≤ 1 → gI h' o k = gI h o k := fun o k q => F.2.2 o k (hD o k q)
  refine ⟨F.1.trans a1, ?_, Fr_KC F pT_C a3, Fr_KM F pT_M a4, ?_⟩
  · rw [← a2]
    funext k
    exact e 0 k (by omega)
  · unfold AB
    simp only [e 1 _ (Nat.le_refl 1)]
    exact a5
/-- THE PROGRAM, the told ORDER, THE ORDER -/
def R2 (h : abH) (p : Nat) (P : Nat → Nat → Int32) (tl : Option (Nat → Nat)) : Prop := (p = 5 ∨ p = 17) ∧ gR h 2 1 = .ref p ∧ gR h 2 2 = .ref (22 - p) ∧ pv h = P ∧ okW P ∧ tlV P tl ∧ toH h P tl ∧ gI h 29 2 = zB tl.isSome ∧ (∀ l, l < 4 → gI h 52 l = P 67 l) ∧ TM h p P (oRD P tl)
def D2 : Nat → Nat → Prop := fun o k => (o = 65 ∧ (k = 4 ∨ k = 26)) ∨ (67 ≤ o ∧ o ≤ 77) ∨ o = 88 ∨ (o = 29 ∧ (k = 2 ∨ k = 3)) ∨ (31 ≤ o ∧ o ≤ 38) ∨ (5 ≤ o ∧ o ≤ 28) ∨ o = 52
theorem pv_cg {h h' : abH} (e : ∀ o k, 67 ≤ o ∧ o ≤ 77 → gI h' o k = gI h o k) (e4 : gI h' 65 4 = gI h 65 4) : pv h' = pv h := by
  funext q
  unfold pv
  split
  · rename_i hq
    funext k
    exact e q k hq
  · split
    · funext k
      split
      · exact e4
      · rfl
    · rfl
theorem toH_cg {h h' : abH} {P : Nat → Nat → Int32} {tl : Option (Nat → Nat)} (e1 : gI h' 65 26 = gI h 65 26) (e2 : ∀ k, gI h' 88 k = gI h 88 k) (T : toH h P tl) : toH h' P tl := ⟨e1.trans T.1, fun f hf k hk => by rw [e2]; exact T.2 f hf k hk⟩
theorem TL_cg {h h' : abH} {P : Nat → Nat → Int32} {o : Nat → Nat} (e : ∀ o k, 34 ≤ o ∧ o ≤ 38 → gI h' o k = gI h o k) (L : TL h P o) : TL h' P o := by
  refine ⟨fun k hk => ?_, fun b hb => ?_⟩
  · rw [e 34 k (by omega), e 35 k (by omega), e 36 k (by omega)]
    exact L.1 k hk
  · rw [e 37 b (by omega), e 38 b (by omega)]
    exact L.2 b hb
theorem LD_cg {h h' : abH} {P : Nat → Nat → Int32} (e : ∀ o k, 31 ≤ o ∧ o ≤ 33 → gI h' o k = gI h o k) (L : LD h P) : LD h' P := by
  refine ⟨fun b hb => ?_, fun s hs => ?_⟩
  · rw [e 31 b (by omega)]
    exact L.1 b hb
  · rw [e 32 s (by omega), e 33 s (by omega)]
    exact L.2 s hs
theorem TM_cg {h h' : abH} {p : Nat} {P : Nat → Nat → Int32} {ot : Option (Nat → Nat)} (hp : p = 5 ∨ p = 17) (e : ∀ o k, 5 ≤ o ∧ o ≤ 28 ∨ 31 ≤ o ∧ o ≤ 38 ∨ o = 29 ∧ k = 3 → gI h' o k = gI h o k) (r1 : gR h' 29 1 = gR h 29 1) (r2 : gR h' 30 0 = gR h 30 0) (T : TM h p P ot) : TM h' p P ot := by
  obtain ⟨⟨c1, c2⟩, ⟨-, l1, l2⟩, t1, t2⟩ := T
  have C : CP h' p P := CPg_of (fun o k q1 q2 => e o k (by omega)) c1
  exact ⟨⟨C, r1.trans c2⟩, ⟨C, LD_cg (fun o k q => e o k (by omega)) l1, r2.trans l2⟩, (e 29 3 (by omega)).trans t1, fun o ho => ⟨(t2 o ho).1, TL_cg (fun o k q => e o k (by omega)) (t2 o ho).2⟩⟩
theorem R2_fr {h h' : abH} {S : Nat → Nat → Prop} {p : Nat} {P : Nat → Nat → Int32} {tl : Option (Nat → Nat)} (F : Fr S dT h h') (hD : ∀ o k, D2 o k → ¬ S o k) (R : R2 h p P tl) : R2 h' p P tl := by
  obtain ⟨a1, a2, a3, a4, a5, a6, a7, a8, a9, a10⟩ := R
  have e : ∀ o k, D2 o k → gI h' o k = gI h o k := fun o k q => F.2.2 o k (hD o k q)
  have r : ∀ o k, ¬ dT o k → gR h' o k = gR h o k := F.2.1
  refine ⟨a1, ?_, ?_, ?_, a5, a6, ?_, ?_, fun l hl => ?_, ?_⟩
  · rw [r 2 1 (by unfold dT; omega)]; exact a2
  · rw [r 2 2 (by unfold dT; omega)]; exact a3
  · rw [pv_cg (fun o k q => e o k (by unfold D2; omega)) (e 65 4 (by unfold D2; omega))]; exact a4
  · exact toH_cg (e 65 26 (by unfold D2; omega)) (fun k => e 88 k (by unfold D2; omega)) a7
  · rw [e 29 2 (by unfold D2; omega)]; exact a8
  · rw [e 52 l (by unfold D2; omega)]; exact a9 l hl
  · exact TM_cg a1 (fun o k q => e o k (by unfold D2; omega)) (r 29 1 (by unfold dT; omega)) (r 30 0 (by unfold dT; omega)) a10
/-- LEAST PEAK as it is kept -/
def R3 (h : abH) (P : Nat → Nat → Int32) : Prop := b01 (gI h 39 0) ∧ (gI h 39 0 ≠ 0 → gI h 39 1 = nI (hcN P (2 ^ nS P)) ∧ ∃ m, mT P 0 = some m ∧ gI h 40 0 = nI m ∧ ∀ k, k < nS P → gI h 41 k = nI (tld P m k))
def D3 : Nat → Nat → Prop := fun o _ => 39 ≤ o ∧ o ≤ 41
theorem R3_fr {h h' : abH} {S T : Nat → Nat → Prop} {P : Nat → Nat → Int32} (F : Fr S T h h') (hD : ∀ o k, D3 o k → ¬ S o k) (R : R3 h P) : R3 h' P := by
  have e : ∀ o k, D3 o k → gI h' o k = gI h o k := fun o k q => F.2.2 o k (hD o k q)
  have e1 : ∀ o k, 39 ≤ o ∧ o ≤ 41 → gI h' o k = gI h o k := e
  unfold R3
  simp only [e1 39 _ (by omega), e1 40 _ (by omega), e1 41 _ (by omega)]
  exact R
/-- HEIGHT as it is kept -/
def R4 (h : abH) : Prop := ∃ n, n ≤ 6 ∧ gI h 42 4 = nI n ∧ gI h 65 30 = nI n ∧ ∀ k, k < n → gI h 44 k = gI h 90 k
def D4 : Nat → Nat → Prop := fun o k => (o = 42 ∧ k = 4) ∨ o = 44 ∨ (o = 65 ∧ k = 30) ∨ o = 90
theorem R4_fr {h h' : abH} {S T : Nat → Nat → Prop} (F : Fr S T h h') (hD : ∀ o k, D4 o k → ¬ S o k) (R : R4 h) : R4 h' := by
  have e : ∀ o k, D4 o k → gI h' o k = gI h o k := fun o k q => F.2.2 o k (hD o k q)
  obtain ⟨n, a1, a2, a3, a4⟩ := R
  refine ⟨n, a1, ?_, ?_, fun k hk => ?_⟩
  · rw [e 42 4 (by unfold D4; omega)]; exact a2
  · rw [e 65 30 (by unfold D4; omega)]; exact a3
  · rw [e 44 k (by unfold D4; omega), e 90 k (by unfold D4; omega)]; exact a4 k hk
/-- the PLAN -/
def R5 (h : abH) : Prop := ∀ b, b < 12 → gI h 45 b = gI h 89 b ∧ plI (gI h 89 b) = true
def D5 : Nat → Nat → Prop := fun o _ => o = 45 ∨ o = 89
theorem R5_fr {h h' : abH} {S T : Nat → Nat → Prop} (F : Fr S T h h') (hD : ∀ o k, D5 o k → ¬ S o k) (R : R5 h) : R5 h' := by
  have e : ∀ o k, D5 o k → gI h' o k = gI h o k := fun o k q => F.2.2 o k (hD o k q)
  intro b hb
  rw [e 45 b (by unfold D5; omega), e 89 b (by unfold D5; omega)]
  exact R b hb
/-- what is SENT OUT -/
def R6 (h : abH) : Prop := gI h 46 0 = gI h 65 29
def D6 : Nat → Nat → Prop := fun o k => (o = 46 ∧ k = 0) ∨ (o = 65 ∧ k = 29)
theorem R6_fr {h h' : abH} {S T : Nat → Nat → Prop} (F : Fr S T h h') (hD : ∀ o k, D6 o k → ¬ S o k) (R : R6 h) : R6 h' := by
  have e : ∀ o k, D6 o k → gI h' o k = gI h o k := fun o k q => F.2.2 o k (hD o k q)
  unfold R6
  rw [e 46 0 (by unfold D6; omega), e 65 29 (by unfold D6; omega)]
  exact R
/-- the FLOOR -/
def R7 (h : abH) (P : Nat → Nat → Int32) : Prop := ∃ L hi p rl, (∀ b, b < 12 → gI h 51 b = oI (L b) ∧ gI h 91 b = oI (L b)) ∧ gI h 50 1 = nI hi ∧ gI h 65 33 = nI hi ∧ gI h 50 0 = nI p ∧ gI h 65 32 = nI p ∧ gI h 50 2 = nI rl ∧ gI h 65 34 = nI rl ∧ rl < 3 ∧ p ≤ nS P ∧ flK P L hi p ∧ dj P L
def D7 : Nat → Nat → Prop := fun o k => (o = 50 ∧ k ≤ 2) ∨ o = 51 ∨ (o = 65 ∧ 32 ≤ k ∧ k ≤ 34) ∨ o = 91
theorem R7_fr {h h' : abH} {S T : Nat → Nat → Prop} {P : Nat → Nat → Int32} (F : Fr S T h h') (hD : ∀ o k, D7 o k → ¬ S o k) (R : R7 h P) : R7 h' P := by
  have e : ∀ o k, D7 o k → gI h' o k = gI h o k := fun o k q => F.2.2 o k (hD o k q)
  obtain ⟨L, hi, p, rl, a1, a2, a3, a4, a5, a6, a7, a8⟩ := R
  refine ⟨L, hi, p, rl, fun b hb => ?_, ?_, ?_, ?_, ?_, ?_, ?_, a8⟩
  · rw [e 51 b (by unfold D7; omega), e 91 b (by unfold D7; omega)]; exact a1 b hb
  · rw [e 50 1 (by unfold D7; omega)]; exact a2
  · rw [e 65 33 (by unfold D7; omega)]; exact a3
  · rw [e 50 0 (by unfold D7; omega)]; exact a4
  · rw [e 65 32 (by unfold D7; omega)]; exact a5
  · rw [e 50 2 (by unfold D7; omega)]; exact a6
  · rw [e 65 34 (by unfold D7; omega)]; exact a7
/-- the IMAGE -/
def wP (P : Nat → Nat → Int32) (w : Nat → Int32) : Nat → Nat → Int32 := fun o => if o = 67 then w else P o
def R8 (h : abH) (P : Nat → Nat → Int32) : Prop := gI h 2 11 = gI h 65 36 ∧ b01 (gI h 65 36) ∧ (gI h 65 36 ≠ 0 → ∃ L hi p rl w, (∀ b, b < 12 → gI h 54 b = oI (L b) ∧ gI h 92 b = oI (L b)) ∧ gI h 53 1 = nI hi ∧ gI h 65 38 = nI hi ∧ gI h 53 0 = nI p ∧ gI h 65 37 = nI p ∧ gI h 53 2 = nI rl ∧ gI h 65 39 = nI rl ∧ (∀ l, l < 4 → gI h 55 l = w l ∧ gI h 93 l = w l ∧ bn (w l) 100) ∧ rl < 3 ∧ p ≤ nS P ∧ flK (wP P w) L hi p ∧ dj (wP P w) L)
def D8 : Nat → Nat → Prop := fun o k => (o = 2 ∧ k = 11) ∨ (o = 65 ∧ 36 ≤ k ∧ k ≤ 39) ∨ (53 ≤ o ∧ o ≤ 55) ∨ o = 92 ∨ o = 93
theorem R8_fr {h h' : abH} {S T : Nat → Nat → Prop} {P : Nat → Nat → Int32} (F : Fr S T h h') (hD : ∀ o k, D8 o k → ¬ S o k) (R : R8 h P) : R8 h' P := by
  have e : ∀ o k, D8 o k → gI h' o k = gI h o k := fun o k q => F.2.2 o k (hD o k q)
  obtain ⟨b1, b2, b3⟩ := R
  unfold R8
  rw [e 65 36 (by unfold D8; omega), e 2 11 (by unfold D8; omega)]
  refine ⟨b1, b2, fun q => ?_⟩
  obtain ⟨L, hi, p, rl, w, a1, a2, a3, a4, a5, a6, a7, a8, a9⟩ := b3 q
  refine ⟨L, hi, p, rl, w, fun b hb => ?_, ?_, ?_, ?_, ?_, ?_, ?_, fun l hl => ?_, a9⟩
  · rw [e 54 b (by unfold D8; omega), e 92 b (by unfold D8; omega)]; exact a1 b hb
  · rw [e 53 1 (by unfold D8; omega)]; exact a2
  · rw [e 65 38 (by unfold D8; omega)]; exact a3
  · rw [e 53 0 (by unfold D8; omega)]; exact a4
  · rw [e 65 37 (by unfold D8; omega)]; exact a5
  · rw [e 53 2 (by unfold D8; omega)]; exact a6
  · rw [e 65 39 (by unfold D8; omega)]; exact a7
  · rw [e 55 l (by unfold D8; omega), e 93 l (by unfold D8; omega)]; exact a8 l hl
/-- the SHEETS -/
def R9 (h : abH) : Prop := ∀ s, s < 4 → gI h (57 + 2 * s) 0 = gI h 94 s ∧ gI h (57 + 2 * s) 1 = gI h 95 s ∧ (gI h 94 s = -1 ∨ bn (gI h 94 s) 3) ∧ bn (gI h 95 s) 41 ∧ ∀ k, k < 40 → gI h (58 + 2 * s) k = gI h 96 (40 * s + k)
def D9 : Nat → Nat → Prop := fun o _ => (57 ≤ o ∧ o ≤ 64) ∨ (94 ≤ o ∧ o ≤ 96)
theorem R9_fr {h h' : abH} {S T : Nat → Nat → Prop} (F : Fr S T h h') (hD : ∀ o k, D9 o k → ¬ S o k) (R : R9 h) : R9 h' := by
  have e : ∀ o k, D9 o k → gI h' o k = gI h o k := fun o k q => F.2.2 o k (hD o k q)
  intro s hs
  rw [e (57 + 2 * s) 0 (by unfold D9; omega), e (57 + 2 * s) 1 (by unfold D9; omega), e 94 s (by unfold D9; omega), e 95 s (by unfold D9; omega)]
  refine ⟨(R s hs).1, (R s hs).2.1, (R s hs).2.2.1, (R s hs).2.2.2.1, fun k hk => ?_⟩
  rw [e (58 + 2 * s) k (by unfold D9; omega), e 96 (40 * s + k) (by unfold D9; omega)]
  exact (R s hs).2.2.2.2 k hk
/-- how many programs were taken -/
def RA (h : abH) : Prop := gI h 2 13 = gI h 65 2
def DA : Nat → Nat → Prop := fun o k => (o = 2 ∧ k = 13) ∨ (o = 65 ∧ k = 2)
theorem RA_fr {h h' : abH} {S T : Nat → Nat → Prop} (F : Fr S T h h') (hD : ∀ o k, DA o k → ¬ S o k) (R : RA h) : RA h' := by
  have e : ∀ o k, DA o k → gI h' o k = gI h o k := fun o k q => F.2.2 o k (hD o k q)
  unfold RA
  rw [e 2 13 (by unfold DA; omega), e 65 2 (by unfold DA; omega)]
  exact R
/-- the TAPE -/
def RB (h : abH) : Prop := ∃ (c : Nat → Nat) (T : Nat), tpC h c T ∧ tpH h c T
def DB : Nat → Nat → Prop := fun o k => (o = 3 ∧ k = 1) ∨ o = 4 ∨ (o = 65 ∧ k = 1) ∨ o = 66
theorem RB_fr {h h' : abH} {S T : Nat → Nat → Prop} (F : Fr S T h h') (hD : ∀ o k, DB o k → ¬ S o k) (R : RB h) : RB h' := by
  have e : ∀ o k, DB o k → gI h' o k = gI h o k := fun o k q => F.2.2 o k (hD o k q)
  obtain ⟨c, T, ⟨a1, a2, a3⟩, ⟨b1, b2, b3⟩⟩ := R
  refine ⟨c, T, ⟨?_, a2, fun j hj => ?_⟩, ⟨?_, b2, fun j hj => ?_⟩⟩
  · rw [e 3 1 (by unfold DB; omega)]; exact a1
  · rw [e 4 j (by unfold DB; omega)]; exact a3 j hj
  · rw [e 65 1 (by unfold DB; omega)]; exact b1
  · rw [e 66 j (by unfold DB; omega)]; exact b3 j hj
/-- what holds between the class and the reference -/
def Rel (hs h : abH) : Prop := ∃ p P tl, R1 hs h ∧ R2 h p P tl ∧ R3 h P ∧ R4 h ∧ R5 h ∧ R6 h ∧ R7 h P ∧ R8 h P ∧ R9 h ∧ RA h ∧ RB h
/-- where nothing lies that is kept -/
def scS : Nat → Nat → Prop := fun o k => (79 ≤ o ∧ o ≤ 87) ∨ o = 78 ∨ 97 ≤ o ∨ (o = 65 ∧ (k = 15 ∨ k = 45 ∨ k = 53))
theorem Fm_Fr {h h' : abH} {T : Nat → Nat → Prop} (F : Fm h h') : Fr scS T h h' := by
  refine ⟨F.1, fun o k _ => Fm_R F, fun o k q => ?_⟩
  unfold scS at q
  by_cases e : o = 65
  · subst e
    exact F.2.2.2 k (by omega) (by omega) (by omega)
  · rw [F.2.2.1 o (by unfold scr; exact decide_eq_false (by omega)) e]
/-- what is kept may be shown by what was left as it was -/
def DZ : Nat → Nat → Prop := fun o k => D1 o k ∨ D2 o k ∨ D3 o k ∨ D4 o k ∨ D5 o k ∨ D6 o k ∨ D7 o k ∨ D8 o k ∨ D9 o k ∨ DA o k ∨ DB o k
theorem Rel_fr {hs h h' : abH} {S : Nat → Nat → Prop} (F : Fr S dT h h') (hD : ∀ o k, DZ o k → ¬ S o k) (R : Rel hs h) : Rel hs h' := by
  obtain ⟨p, P, tl, r1, r2, r3, r4, r5, r6, r7, r8, r9, ra, rb⟩ := R
  exact ⟨p, P, tl, R1_fr (Fr_pT F) (fun o k q => hD o k (Or.inl q)) r1, R2_fr F (fun o k q => hD o k (Or.inr (Or.inl q))) r2, R3_fr F (fun o k q => hD o k (Or.inr (Or.inr (Or.inl q)))) r3, R4_fr F (fun o k q => hD o k (Or.inr (Or.inr (Or.inr (Or.inl q))))) r4, R5_fr F (fun o k q => hD o k (Or.inr (Or.inr (Or.inr (Or.inr (Or.inl q)))))) r5, R6_fr F (fun o k q => hD o k (Or.inr (Or.inr (Or.inr (Or.inr (Or.inr (Or.inl q))))))) r6, R7_fr F (fun o k q => hD o k (Or.inr (Or.inr (Or.inr (Or.inr (Or.inr (Or.inr (Or.inl q)))))))) r7, R8_fr F (fun o k q => hD o k (Or.inr (Or.inr (Or.inr (Or.inr (Or.inr (Or.inr (Or.inr (Or.inl q))))))))) r8, R9_fr F (fun o k q => hD o k (Or.inr (Or.inr (Or.inr (Or.inr (Or.inr (Or.inr (Or.inr (Or.inr (Or.inl q)))))))))) r9, RA_fr F (fun o k q => hD o k (Or.inr (Or.inr (Or.inr (Or.inr (Or.inr (Or.inr (Or.inr (Or.inr (Or.inr (Or.inl q))))))))))) ra, RB_fr F (fun o k q => hD o k (Or.inr (Or.inr (Or.inr (Or.inr (Or.inr (Or.inr (Or.inr (Or.inr (Or.inr (Or.inr q))))))))))) rb⟩
/-- a call on both sides -/
def Pr (d : Nat) (hs h : abH) (y1 y2 : Nat) (a1 a2 : List Value) : Prop := ∀ Q1 : Option Value → abH → Prop, (∀ v h1, (∀ Q2 : Option Value → abH → Prop, (∀ h2, Rel hs h2 → Q2 (some (.int v)) h2) → aM (d + 20) y2 a2 h1 Q2) → Q1 (some (.int v)) h1) → aM (d + 20) y1 a1 h Q1
