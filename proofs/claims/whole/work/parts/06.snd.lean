/-! SOUNDNESS, ONE INSTRUCTION: the heap -/
section SNH
variable {p : Program} {l : Launch} {e : Env} {R : Room} {s : State} {m : MethodId} {args : Array Value} {below : List Frame} {meth : Method} {c : Code} {Q : State → Prop} {mi : abMI} {D : va_G} {cy : Nat → ClassId} {B0 b t Ln : Nat} {xs : Nat → Int32} {c0 s0 : Nat} {d pc pc' len : Nat} {L S L' S' : List Value} {h h' : abH}
/-- a heap of the same tags, but for one cell -/
theorem abDy.put {H H1 : Heap} {locs locs1 : List Loc} {o : Nat} {q : Nat × Nat} (hd : abDy D cy B0 b t Ln xs s h H locs) (e : gT h o = some q) (hq : q.1 < 100) (hg : h'.1 = h.1) (hk : ∀ o', o' ≠ o → gI h' o' = gI h o' ∧ gR h' o' = gR h o')
    (h1 : va_P D vwCl ((aWs cy (abAd B0 b t) h).set (o - 2) (abAd B0 b t o, oE cy (abAd B0 b t) h' o q)) H1) (h2 : va_S (fun q : Nat => B0 ≤ q) s.heap H1 locs1) (hz : H1.size = H.size) : abDy D cy B0 b t Ln xs s h' H1 locs1 := by
  obtain ⟨a1, a2, a3, a4⟩ := hd
  have ho := a4.two e hq
  obtain ⟨p0, p1, p2, p3⟩ := a4
  refine ⟨?_, h2, by rw [hz, hg]; exact a3, ?_⟩
  · rw [aWs_set e ho hg hk]
    exact h1
  · refine ⟨by unfold gT; rw [hg]; exact p0, by unfold gT; rw [hg]; exact p1, fun j hj => ?_, fun j hj => ?_⟩
    · rw [(hk 0 (by omega)).1]; exact p2 j hj
    · rw [(hk 1 (by omega)).1]; exact p3 j hj
/-- the heap's size is known, since the machine counts what is made -/
theorem W_sz {H : Heap} {locs : List Loc} {cl sl : Nat} {g : JFrame} (k : H.size ≤ s.heap.size + cl → W p l e R s m args below meth c H locs cl sl Q g) : W p l e R s m args below meth c H locs cl sl Q g := by
  intro T hT X
  have h1 := X.same.2.2.1
  have h2 : T.heap.size ≤ s.heap.size + cl := h1
  rw [hT] at h2
  exact k h2 T hT X
theorem va_S.here {A : Nat → Prop} {H0 H : Heap} {locs : List Loc} (h : va_S A H0 H locs) : va_S A H H locs := ⟨Nat.le_refl _, fun _ _ _ => rfl, h.2.2⟩
theorem va_S.then {A : Nat → Prop} {H0 H H1 : Heap} {locs locs1 : List Loc} (h : va_S A H0 H locs) (h1 : va_S A H H1 locs1) : va_S A H0 H1 locs1 := ⟨Nat.le_trans h.1 h1.1, fun q hq hA => (h1.2.1 q (Nat.lt_of_lt_of_le hq h.1) hA).trans (h.2.1 q hq hA), h1.2.2⟩
theorem oE_0 {ad : Nat → Nat} {o n : Nat} : oE cy ad h o (0, n) = .inl (cy 0, n, .inl (gI h o)) := rfl
theorem oE_1 {ad : Nat → Nat} {o n : Nat} : oE cy ad h o (1, n) = .inl (cy 1, n, .inl (gI h o)) := rfl
theorem oE_2 {ad : Nat → Nat} {o n : Nat} : oE cy ad h o (2, n) = .inl (cy 2, n, .inr (.inr (.inr (.inr (fun k => rO ad (gR h o k)))))) := rfl
theorem oE_3 {ad : Nat → Nat} {o n ci : Nat} : oE cy ad h o (ci + 3, n) = .inr (ci, oVs ad h o ci) := by
  unfold oE
  rw [if_neg (by show ¬ ci + 3 = 0; omega), if_neg (by show ¬ ci + 3 = 1; omega), if_neg (by show ¬ ci + 3 = 2; omega)]
  rfl
theorem oVs_at {ad : Nat → Nat} {o ci k : Nat} (hk : k < (abKs.getD ci []).length) : (oVs ad h o ci)[k]? = some (if abKd ci k = 2 then va_rf (rO ad (gR h o k)) else .int (gI h o k)) := by
  unfold oVs
  rw [List.getElem?_map, List.getElem?_range hk]
  rfl
theorem oVs_len {ad : Nat → Nat} {o ci : Nat} : (oVs ad h o ci).length = (abKs.getD ci []).length := by simp [oVs]
theorem pA_I {o o' : Nat} {f : Nat → Int32} : gI (pA h o f) o' = if o' = o then f else gI h o' := rfl
theorem pA_R {o o' : Nat} {f : Nat → Int32} : gR (pA h o f) o' = gR h o' := rfl
theorem pI_I {o o' k : Nat} {v : Int32} : gI (pI h o k v) o' = if o' = o then upd (gI h o) k v else gI h o' := rfl
theorem pI_R {o o' k : Nat} {v : Int32} : gR (pI h o k v) o' = gR h o' := rfl
theorem pR_I {o o' k : Nat} {v : Value} : gI (pR h o k v) o' = gI h o' := rfl
theorem pR_R {o o' k : Nat} {v : Value} : gR (pR h o k v) o' = if o' = o then (fun j => if j = k then v else gR h o j) else gR h o' := by
  funext j
  unfold gR pR
  by_cases q : o' = o
  · simp [q]
  · simp [q]
theorem abIn {i : Int32} {n : Nat} (h1 : 0 ≤ i) (h2 : i.toNatClampNeg < n) : vp_in i n := by
  rintro (q | q)
  · rw [Int32.lt_iff_toInt_lt] at q
    rw [Int32.le_iff_toInt_le] at h1
    omega
  · omega
theorem abTy0 : (abTy cy)[0]? = some (cy 0, .int) := rfl
theorem abTy1 : (abTy cy)[1]? = some (cy 1, .boolean) := rfl
theorem abTy2 : (abTy cy)[2]? = some (cy 2, .object "BufferRoom$Sheet") := rfl
abbrev abG (p : Program) (l : Launch) (e : Env) (R : Room) (s : State) (m : MethodId) (args : Array Value) (below : List Frame) (meth : Method) (c : Code) (Q : State → Prop) (mi : abMI) (D : va_G) (cy : Nat → ClassId) (B0 b t Ln : Nat) (xs : Nat → Int32) (c0 s0 : Nat) (d : Nat) : Prop :=
  abFix p R s m args meth c mi d D cy ∧ abSt B0 b t Ln xs s ∧ s.heap.size + 2 = B0 + c0
theorem sd_iald (F : abG p l e R s m args below meth c Q mi D cy B0 b t Ln xs c0 s0 d) (hdg : decode mi.by pc = .ok (.iaload, 1)) (hn : ab_iald pc L S h = some (.inl (pc', L', S', h'))) (K : abW p l e R s m args below meth c Q mi D cy B0 b t Ln xs c0 s0 pc' L' S' h') : abW p l e R s m args below meth c Q mi D cy B0 b t Ln xs c0 s0 pc L S h := by
  obtain ⟨⟨hx, hb, -, -, -, -, -, -, hK, -⟩, ⟨sz1, sz2, sz3, sz4, sz5⟩, -⟩ := F
  unfold ab_iald at hn
  split at hn
  · rename_i i o S0
    split at hn
    · rename_i t1 n1 hT
      split at hn
      · rename_i hc
        obtain ⟨rfl, rfl, rfl, rfl⟩ := ab_goE hn
        obtain ⟨h1, h2, h3⟩ := hc
        intro H locs ls hd hl
        have kk := K H locs ls hd hl
        obtain ⟨a1, a2, a3, a4⟩ := hd
        have hin := abIn h2 h3
        rcases h1 with rfl | ⟨rfl, rfl⟩ | ⟨rfl, rfl⟩
        · exact va_iald (a := abAd B0 b t o) hx hb hK a1 (o - 2) 0 (aWs_at hT (a4.two hT (Nat.le_of_ble_eq_true rfl))) abTy0 hin hdg kk
        · rw [a4.1] at hT
          cases hT
          have e0 : gI h 0 i.toNatClampNeg = xs i.toNatClampNeg := a4.2.2.1 _ h3
          simp only [List.map_cons, tr, e0] at kk
          exact va_sld (b := b) hx hb sz3 (Nat.lt_of_lt_of_le sz4 sz5) (Nat.not_le.mpr sz4) a2 hin hdg kk
        · rw [a4.2.1] at hT
          cases hT
          have e0 : gI h 1 i.toNatClampNeg = abAb i.toNatClampNeg := a4.2.2.2 _ h3
          simp only [List.map_cons, tr, e0] at kk
          obtain ⟨cell, t1, t2, t3, t4, t5, t6, t7⟩ := sz2
          have ht : t < s.heap.size := (Array.getElem?_eq_some_iff.mp t1).1
          have t8 : cell.slots.size = 6 ∨ ¬ (i < 0 ∨ cell.slots.size ≤ i.toNatClampNeg) := by
            right
            rintro (q | q)
            · exact hin (Or.inl q)
            · omega
          have t9 : ¬ (i < 0 ∨ cell.slots.size ≤ i.toNatClampNeg) := by
            rintro (q | q)
            · exact hin (Or.inl q)
            · omega
          exact W.iald (v := .int (abAb i.toNatClampNeg)) hx hb (show H[t]? = some cell from (a2.2.1 t ht t7).trans t1) t2 t3 t9 (t6 _ h3) rfl rfl hdg kk
      · cases hn
    · cases hn
  · cases hn
theorem sd_zald (F : abG p l e R s m args below meth c Q mi D cy B0 b t Ln xs c0 s0 d) (hdg : decode mi.by pc = .ok (.baload, 1)) (hn : ab_zald pc L S h = some (.inl (pc', L', S', h'))) (K : abW p l e R s m args below meth c Q mi D cy B0 b t Ln xs c0 s0 pc' L' S' h') : abW p l e R s m args below meth c Q mi D cy B0 b t Ln xs c0 s0 pc L S h := by
  obtain ⟨⟨hx, hb, -, -, -, -, -, -, hK, -⟩, -⟩ := F
  unfold ab_zald at hn
  split at hn
  · rename_i i o S0
    split at hn
    · rename_i t1 n1 hT
      split at hn
      · rename_i hc
        obtain ⟨rfl, rfl, rfl, rfl⟩ := ab_goE hn
        obtain ⟨rfl, h2, h3⟩ := hc
        intro H locs ls hd hl
        have kk := K H locs ls hd hl
        obtain ⟨a1, a2, a3, a4⟩ := hd
        exact va_zald (a := abAd B0 b t o) hx hb hK a1 (o - 2) 1 (aWs_at hT (a4.two hT (Nat.le_of_ble_eq_true rfl))) abTy1 (abIn h2 h3) hdg kk
      · cases hn
    · cases hn
  · cases hn
theorem rO_tr {ad : Nat → Nat} {v : Value} (h : isRf v = true) : va_rf (rO ad v) = tr ad v := by cases v <;> first | rfl | (cases h)
theorem sd_aald (F : abG p l e R s m args below meth c Q mi D cy B0 b t Ln xs c0 s0 d) (hdg : decode mi.by pc = .ok (.aaload, 1)) (hn : ab_aald pc L S h = some (.inl (pc', L', S', h'))) (K : abW p l e R s m args below meth c Q mi D cy B0 b t Ln xs c0 s0 pc' L' S' h') : abW p l e R s m args below meth c Q mi D cy B0 b t Ln xs c0 s0 pc L S h := by
  obtain ⟨⟨hx, hb, -, -, -, -, -, -, hK, -⟩, -⟩ := F
  unfold ab_aald at hn
  split at hn
  · rename_i i o S0
    split at hn
    · rename_i t1 n1 hT
      split at hn
      · rename_i hc
        obtain ⟨rfl, rfl, rfl, rfl⟩ := ab_goE hn
        obtain ⟨rfl, ⟨h2, h3⟩, h4⟩ := hc
        intro H locs ls hd hl
        have kk := K H locs ls hd hl
        obtain ⟨a1, a2, a3, a4⟩ := hd
        refine va_aldq (a := abAd B0 b t o) hx hb hK a1 (o - 2) 2 (aWs_at hT (a4.two hT (Nat.le_of_ble_eq_true rfl))) abTy2 (abIn h2 h3) hdg ?_
        rw [rO_tr h4]
        exact kk
      · cases hn
    · cases hn
  · cases hn
theorem sd_iast (F : abG p l e R s m args below meth c Q mi D cy B0 b t Ln xs c0 s0 d) (hdg : decode mi.by pc = .ok (.iastore, 1)) (hn : ab_iast pc L S h = some (.inl (pc', L', S', h'))) (K : abW p l e R s m args below meth c Q mi D cy B0 b t Ln xs c0 s0 pc' L' S' h') (hc0 : c0 ≤ h.1.length) : abW p l e R s m args below meth c Q mi D cy B0 b t Ln xs c0 s0 pc L S h := by
  obtain ⟨⟨hx, hb, -, -, -, -, -, -, hK, -⟩, -, hsz⟩ := F
  unfold ab_iast at hn
  split at hn
  · rename_i a i o S0
    split at hn
    · rename_i t1 n1 hT
      split at hn
      · rename_i hc
        obtain ⟨rfl, rfl, rfl, rfl⟩ := ab_goE hn
        obtain ⟨rfl, h2, h3⟩ := hc
        intro H locs ls hd hl
        have hd' := hd
        obtain ⟨a1, a2, a3, a4⟩ := hd
        refine va_iast (a := abAd B0 b t o) hx hb hK a1 aWs_D a2.here (o - 2) 0 (aWs_at hT (a4.two hT (Nat.le_of_ble_eq_true rfl))) abTy0 (abIn h2 h3) hdg (fun H1 locs1 b1 b2 b3 => ?_)
        refine W_sz fun hz => ?_
        refine K H1 locs1 ls (hd'.put hT (Nat.le_of_ble_eq_true rfl) rfl (fun o' ho' => ⟨by rw [pI_I, if_neg ho'], rfl⟩) ?_ (a2.then b3) ?_) hl
        · rw [oE_0, pI_I, if_pos rfl]
          exact b1
        · have := b3.1
          omega
      · cases hn
    · cases hn
  · cases hn
theorem ab_nb {a : Int32} (h : a = 0 ∨ a = 1) : vp_nar .boolean a = a ∧ narrow .boolean (.int a) = .int a ∧ fits .boolean (.int a) = true := by
  rcases h with rfl | rfl <;> exact ⟨rfl, rfl, rfl⟩
theorem sd_zast (F : abG p l e R s m args below meth c Q mi D cy B0 b t Ln xs c0 s0 d) (hdg : decode mi.by pc = .ok (.bastore, 1)) (hn : ab_zast pc L S h = some (.inl (pc', L', S', h'))) (K : abW p l e R s m args below meth c Q mi D cy B0 b t Ln xs c0 s0 pc' L' S' h') (hc0 : c0 ≤ h.1.length) : abW p l e R s m args below meth c Q mi D cy B0 b t Ln xs c0 s0 pc L S h := by
  obtain ⟨⟨hx, hb, -, -, -, -, -, -, hK, -⟩, -, hsz⟩ := F
  unfold ab_zast at hn
  split at hn
  · rename_i a i o S0
    split at hn
    · rename_i t1 n1 hT
      split at hn
      · rename_i hc
        obtain ⟨rfl, rfl, rfl, rfl⟩ := ab_goE hn
        obtain ⟨rfl, ⟨h2, h3⟩, h4⟩ := hc
        intro H locs ls hd hl
        have hd' := hd
        obtain ⟨a1, a2, a3, a4⟩ := hd
        refine va_zast (a := abAd B0 b t o) hx hb hK a1 aWs_D a2.here (o - 2) 1 (aWs_at hT (a4.two hT (Nat.le_of_ble_eq_true rfl))) abTy1 (abIn h2 h3) hdg (fun H1 locs1 b1 b2 b3 => ?_)
        rw [(ab_nb h4).1] at b1
        refine W_sz fun hz => ?_
        refine K H1 locs1 ls (hd'.put hT (Nat.le_of_ble_eq_true rfl) rfl (fun o' ho' => ⟨by rw [pI_I, if_neg ho'], rfl⟩) ?_ (a2.then b3) ?_) hl
        · rw [oE_1, pI_I, if_pos rfl]
          exact b1
        · have := b3.1
          omega
      · cases hn
    · cases hn
  · cases hn
theorem sd_aast (F : abG p l e R s m args below meth c Q mi D cy B0 b t Ln xs c0 s0 d) (hdg : decode mi.by pc = .ok (.aastore, 1)) (hn : ab_aast pc L S h = some (.inl (pc', L', S', h'))) (K : abW p l e R s m args below meth c Q mi D cy B0 b t Ln xs c0 s0 pc' L' S' h') (hc0 : c0 ≤ h.1.length) : abW p l e R s m args below meth c Q mi D cy B0 b t Ln xs c0 s0 pc L S h := by
  obtain ⟨⟨hx, hb, -, -, -, -, -, -, hK, -⟩, -, hsz⟩ := F
  unfold ab_aast at hn
  split at hn
  · rename_i a i o S0
    split at hn
    · rename_i t1 n1 hT
      split at hn
      · rename_i t2 n2 hT2
        split at hn
        · rename_i hc
          obtain ⟨rfl, rfl, rfl, rfl⟩ := ab_goE hn
          obtain ⟨rfl, ⟨h2, h3⟩, rfl⟩ := hc
          intro H locs ls hd hl
          have hd' := hd
          obtain ⟨a1, a2, a3, a4⟩ := hd
          have hv := aWs_at (cy := cy) (ad := abAd B0 b t) hT2 (a4.two hT2 (Nat.le_of_ble_eq_true rfl))
          rw [oE_3 (ci := 8)] at hv
          refine va_astq (a := abAd B0 b t o) (r := (RX9, TX9, 3)) hx hb hK a1 aWs_D a2.here (o - 2) 2 (a - 2) 8 (aWs_at hT (a4.two hT (Nat.le_of_ble_eq_true rfl))) abTy2 hv rfl (abIn h2 h3) hdg (fun H1 locs1 b1 b2 b3 => ?_)
          refine W_sz fun hz => ?_
          refine K H1 locs1 ls (hd'.put hT (Nat.le_of_ble_eq_true rfl) rfl (fun o' ho' => ⟨rfl, by rw [pR_R, if_neg ho']⟩) ?_ (a2.then b3) ?_) hl
          · rw [oE_2, pR_R, if_pos rfl]
            have ef : (fun k => rO (abAd B0 b t) (if k = i.toNatClampNeg then Value.ref a else gR h o k)) = va_up (fun k => rO (abAd B0 b t) (gR h o k)) i.toNatClampNeg (some (abAd B0 b t a)) := by
              funext k
              unfold va_up
              by_cases hk : k = i.toNatClampNeg
              · rw [if_pos hk, if_pos hk]
                rfl
              · rw [if_neg hk, if_neg hk]
            rw [ef]
            exact b1
          · have := b3.1
            omega
        · cases hn
      · cases hn
    · cases hn
  · cases hn
theorem sd_alen (F : abG p l e R s m args below meth c Q mi D cy B0 b t Ln xs c0 s0 d) (hdg : decode mi.by pc = .ok (.arraylength, 1)) (hn : ab_alen pc L S h = some (.inl (pc', L', S', h'))) (K : abW p l e R s m args below meth c Q mi D cy B0 b t Ln xs c0 s0 pc' L' S' h') : abW p l e R s m args below meth c Q mi D cy B0 b t Ln xs c0 s0 pc L S h := by
  obtain ⟨⟨hx, hb, -, -, -, -, -, -, hK, -⟩, ⟨sz1, sz2, sz3, sz4, sz5⟩, -⟩ := F
  unfold ab_alen at hn
  split at hn
  · rename_i o S0
    split at hn
    · rename_i t1 n1 hT
      split at hn
      · rename_i hc
        obtain ⟨rfl, rfl, rfl, rfl⟩ := ab_goE hn
        intro H locs ls hd hl
        have kk := K H locs ls hd hl
        obtain ⟨a1, a2, a3, a4⟩ := hd
        rcases hc with ⟨rfl, rfl⟩ | ⟨rfl, rfl⟩
        · rw [a4.1] at hT
          cases hT
          exact va_slen (b := b) hx hb sz3 (Nat.lt_of_lt_of_le sz4 sz5) (Nat.not_le.mpr sz4) a2 hdg kk
        · rw [a4.2.1] at hT
          cases hT
          obtain ⟨cell, t1, t2, t3, t4, t5, t6, t7⟩ := sz2
          have ht : t < s.heap.size := (Array.getElem?_eq_some_iff.mp t1).1
          exact W.alen (n := nI 6) hx hb (show H[t]? = some cell from (a2.2.1 t ht t7).trans t1) t2 t5 rfl rfl hdg kk
      · cases hn
    · cases hn
  · cases hn
end SNH
