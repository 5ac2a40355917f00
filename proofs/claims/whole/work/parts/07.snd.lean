/-! SOUNDNESS, ONE INSTRUCTION: fields, makings, copies -/
section SNP
variable {p : Program} {l : Launch} {e : Env} {R : Room} {s : State} {m : MethodId} {args : Array Value} {below : List Frame} {meth : Method} {c : Code} {Q : State → Prop} {mi : abMI} {D : va_G} {cy : Nat → ClassId} {B0 b t Ln : Nat} {xs : Nat → Int32} {c0 s0 : Nat} {d pc pc' len : Nat} {L S L' S' : List Value} {h h' : abH}
theorem ab_ty {ci k : Nat} {q : vw_C} (hq : vwCl[ci]? = some q) (hk : k < q.2.2) : (abKd ci k = 0 → abTyp ci k = .int) ∧ (abKd ci k = 1 → abTyp ci k = .boolean) ∧ (abKd ci k = 2 → ∀ a, narrow (abTyp ci k) (.ref a) = .ref a ∧ fits (abTyp ci k) (.ref a) = true) ∧ defaultValue (abTyp ci k) = (if abKd ci k = 2 then .null else .int 0) := by
  have e := ((okK_at hq).2 k hk).1
  have hr : abKd ci k = 0 ∨ abKd ci k = 1 ∨ abKd ci k = 2 ∨ abKd ci k = 9 := by rw [e]; cases abTyp ci k <;> simp [abFk]
  have h9 : abKd ci k ≠ 9 := by
    have hl : ci < 12 := (List.getElem?_eq_some_iff.mp hq).1
    have hl2 : k < (abKs.getD ci []).length := by rw [(okK_at hq).1]; exact hk
    have hall : (List.range 12).all (fun i => (List.range (abKs.getD i []).length).all (fun j => decide (abKd i j ≠ 9))) = true := by decide +kernel
    have h1 := List.all_eq_true.mp hall ci (List.mem_range.mpr hl)
    have h2 := List.all_eq_true.mp h1 k (List.mem_range.mpr hl2)
    simpa using h2
  generalize abTyp ci k = ty at e ⊢
  cases ty <;> simp only [abFk] at e <;> rw [e] <;> first
    | exact ⟨fun _ => rfl, fun q => (by cases q), fun q => (by cases q), rfl⟩
    | exact ⟨fun q => (by cases q), fun _ => rfl, fun q => (by cases q), rfl⟩
    | exact ⟨fun q => (by cases q), fun q => (by cases q), fun _ a => ⟨rfl, rfl⟩, rfl⟩
    | exact absurd e h9
theorem okF_at {key ci k ne w : Nat} (hf : abFT.lookup key = some (ci, k, ne, w)) {own : String} (ho : abCN[key / 4096]? = some own) : ∃ q : vw_C, vwCl[ci]? = some q ∧ k < q.2.2 ∧ (ne = 0 → Cond.fieldLink own (key % 4096) q.1 (q.2.1 k).2.1 (q.2.1 k).2.2.1 ∈ abW0) ∧ (ne ≠ 0 → Cond.fieldLinkNest own (key % 4096) q.1 (q.2.1 k).2.1 (q.2.1 k).2.2.1 "BufferRoom" ∈ abNw) := by
  have h1 := List.all_eq_true.mp okF_all _ (ab_look hf)
  unfold okF at h1
  rw [ho] at h1
  split at h1
  · rename_i q own' e1 e2
    cases e2
    simp only [Bool.and_eq_true, decide_eq_true_eq] at h1
    refine ⟨q, e1, h1.1, fun hn => ?_, fun hn => ?_⟩
    · have h2 := h1.2
      rw [if_pos hn] at h2
      exact abGd_in h2
    · have h2 := h1.2
      rw [if_neg hn] at h2
      exact abNd_in h2 rfl
  · cases h1
theorem ab_key {n ix : Nat} (h : ix < 4096) : (n * 4096 + ix) / 4096 = n ∧ (n * 4096 + ix) % 4096 = ix := by omega
theorem sd_get {ix : Nat} (hix : ix < 4096) (F : abG p l e R s m args below meth c Q mi D cy B0 b t Ln xs c0 s0 d) (hdg : decode mi.by pc = .ok (.getfield ix, 3)) (hn : ab_get mi ix pc L S h = some (.inl (pc', L', S', h'))) (K : abW p l e R s m args below meth c Q mi D cy B0 b t Ln xs c0 s0 pc' L' S' h') : abW p l e R s m args below meth c Q mi D cy B0 b t Ln xs c0 s0 pc L S h := by
  obtain ⟨⟨hx, hb, -, -, hown, hts, -, -, hK, -, -, hNw, -, hcn⟩, -⟩ := F
  unfold ab_get at hn
  split at hn
  · rename_i ci k ne w hf
    split at hn
    · rename_i o S0
      split at hn
      · rename_i t1 n1 hT
        split at hn
        · rename_i ht1
          subst ht1
          obtain ⟨q, hq, hk, w1, w2⟩ := okF_at hf (own := mi.nm.cls) (by rw [(ab_key hix).1]; exact hcn)
          rw [(ab_key hix).2] at w1 w2
          have hin : ∀ w ∈ u_ws q.1 q.2.1 q.2.2, w ∈ abW0 := fun w hw => okU q (List.mem_of_getElem? hq) hw
          have hsame : ∀ x, s.fieldFound? (q.2.1 k).1 (q.2.1 k).2.1 (q.2.1 k).2.2.1 = some x → s.fieldFound? q.1 (q.2.1 k).2.1 (q.2.1 k).2.2.1 = some x := by
            intro x hx9
            rw [((okK_at hq).2 k hk).2] at hx9
            exact hx9
          intro H locs ls hd hl
          have a1 := hd.1
          have a4 := hd.2.2.2
          have he := aWs_at (cy := cy) (ad := abAd B0 b t) hT (a4.two hT (by
            have hl12 : ci < 12 := (List.getElem?_eq_some_iff.mp hq).1
            show ci + 3 < 100
            omega))
          rw [oE_3] at he
          have hv := oVs_at (h := h) (ad := abAd B0 b t) (o := o) (ci := ci) (k := k) (by rw [(okK_at hq).1]; exact hk)
          have key : ∀ v : Value, (if abKd ci k = 2 then va_rf (rO (abAd B0 b t) (gR h o k)) else .int (gI h o k)) = v → W p l e R s m args below meth c H locs (h.1.length - c0) (absz h.1 - s0) Q (F0 m (pc + 3) ls (v :: S0.map (tr (abAd B0 b t)))) → W p l e R s m args below meth c H locs (h.1.length - c0) (absz h.1 - s0) Q (F0 m pc ls (.ref (abAd B0 b t o) :: S0.map (tr (abAd B0 b t)))) := by
            intro v hv2 kk
            rw [hv2] at hv
            by_cases hne : ne = 0
            · exact va_get (D := D) (C := q.1) (T := q.2.1) (N := q.2.2) hx hb hts hin hown hK a1 (o - 2) he hq k hk (hts _ (w1 hne)) hsame hv hdg kk
            · exact va_getN (D := D) (C := q.1) (T := q.2.1) (N := q.2.2) hx hb hts hin hown hK a1 (o - 2) he hq k hk (va_Nw.use rfl (hNw _ (w2 hne))) hsame hv hdg kk
          split at hn
          · rename_i hk2
            split at hn
            · rename_i hrf
              obtain ⟨rfl, rfl, rfl, rfl⟩ := ab_goE hn
              refine key _ (by rw [if_pos hk2, rO_tr hrf]) (K H locs ls hd hl)
            · cases hn
          · rename_i hk2
            obtain ⟨rfl, rfl, rfl, rfl⟩ := ab_goE hn
            exact key (.int (gI h o k)) (if_neg hk2) (K H locs ls hd hl)
        · cases hn
      · cases hn
    · cases hn
  · cases hn
theorem oVs_set {ad : Nat → Nat} {o ci k : Nat} {v : Value} (hk : k < (abKs.getD ci []).length) (h1 : ∀ j, j ≠ k → gI h' o j = gI h o j ∧ gR h' o j = gR h o j) (h2 : (if abKd ci k = 2 then va_rf (rO ad (gR h' o k)) else .int (gI h' o k)) = v) : oVs ad h' o ci = (oVs ad h o ci).set k v := by
  apply List.ext_getElem?
  intro i
  by_cases hi : i < (abKs.getD ci []).length
  · by_cases hik : i = k
    · subst hik
      rw [oVs_at hi, List.getElem?_set_self (by rw [oVs_len]; exact hi), h2]
    · rw [oVs_at hi, List.getElem?_set_ne (Ne.symm hik), oVs_at hi, (h1 i hik).1, (h1 i hik).2]
  · rw [List.getElem?_eq_none (by rw [oVs_len]; omega), List.getElem?_eq_none (by rw [List.length_set, oVs_len]; omega)]
theorem sd_put {ix : Nat} (hix : ix < 4096) (F : abG p l e R s m args below meth c Q mi D cy B0 b t Ln xs c0 s0 d) (hdg : decode mi.by pc = .ok (.putfield ix, 3)) (hn : ab_put mi ix pc L S h = some (.inl (pc', L', S', h'))) (K : abW p l e R s m args below meth c Q mi D cy B0 b t Ln xs c0 s0 pc' L' S' h') (hc0 : c0 ≤ h.1.length) : abW p l e R s m args below meth c Q mi D cy B0 b t Ln xs c0 s0 pc L S h := by
  obtain ⟨⟨hx, hb, -, -, hown, hts, -, hin2, hK, -, -, hNw, -, hcn⟩, -, hsz⟩ := F
  unfold ab_put at hn
  split at hn
  · rename_i ci k ne w hf
    obtain ⟨q, hq, hk, w1, w2⟩ := okF_at hf (own := mi.nm.cls) (by rw [(ab_key hix).1]; exact hcn)
    rw [(ab_key hix).2] at w1 w2
    have hl12 : ci < 12 := (List.getElem?_eq_some_iff.mp hq).1
    have hin : ∀ w ∈ u_ws q.1 q.2.1 q.2.2, w ∈ abW0 := fun w hw => okU q (List.mem_of_getElem? hq) hw
    have hsame : ∀ x, s.fieldFound? (q.2.1 k).1 (q.2.1 k).2.1 (q.2.1 k).2.2.1 = some x → s.fieldFound? q.1 (q.2.1 k).2.1 (q.2.1 k).2.2.1 = some x := by
      intro x hx9
      rw [((okK_at hq).2 k hk).2] at hx9
      exact hx9
    have hfq : abFin ci k = (q.2.1 k).2.2.2 := by unfold abFin; rw [hq]
    have hdq : abDecl ci k = (q.2.1 k).1 := by unfold abDecl; rw [hq]
    have hk' : k < (abKs.getD ci []).length := by rw [(okK_at hq).1]; exact hk
    obtain ⟨ty1, ty2⟩ := okTy hq
    have hd9 := ty1 k hk
    split at hn
    · cases hn
    · rename_i hfin
      have key : ∀ (o : Nat) (S0 : List Value) (n1 : Nat) (va : Value) (h2 : abH), gT h o = some (ci + 3, n1) → narrow (abTyp ci k) va = va → fits (abTyp ci k) va = true → h2.1 = h.1 → (∀ o', o' ≠ o → gI h2 o' = gI h o' ∧ gR h2 o' = gR h o') → oVs (abAd B0 b t) h2 o ci = (oVs (abAd B0 b t) h o ci).set k va →
          abW p l e R s m args below meth c Q mi D cy B0 b t Ln xs c0 s0 (pc + 3) L S0 h2 → ∀ (H : Heap) (locs : List Loc) (ls : Array Slot), abDy D cy B0 b t Ln xs s h H locs → abLk (abAd B0 b t) L ls mi.mL → W p l e R s m args below meth c H locs (h.1.length - c0) (absz h.1 - s0) Q (F0 m pc ls (va :: .ref (abAd B0 b t o) :: S0.map (tr (abAd B0 b t)))) := by
        intro o S0 n1 va h2 hT hnv hfv hg hk3 hset K2 H locs ls hd hl
        have hd' := hd
        obtain ⟨a1, a2, a3, a4⟩ := hd
        have he := aWs_at (cy := cy) (ad := abAd B0 b t) hT (a4.two hT (show ci + 3 < 100 by omega))
        rw [oE_3] at he
        have hlen : k < (oVs (abAd B0 b t) h o ci).length := by rw [oVs_len]; exact hk'
        have fin : ∀ (H1 : Heap) (locs1 : List Loc), va_P D vwCl ((aWs cy (abAd B0 b t) h).set (o - 2) (abAd B0 b t o, .inr (ci, (oVs (abAd B0 b t) h o ci).set k va))) H1 → va_S (fun q : Nat => B0 ≤ q) H H1 locs1 → W p l e R s m args below meth c H1 locs1 (h.1.length - c0) (absz h.1 - s0) Q (F0 m (pc + 3) ls (S0.map (tr (abAd B0 b t)))) := by
          intro H1 locs1 b1 b3
          refine W_sz fun hz => ?_
          have hdy : abDy D cy B0 b t Ln xs s h2 H1 locs1 := by
            refine hd'.put hT (show ci + 3 < 100 by omega) hg hk3 ?_ (a2.then b3) ?_
            · rw [oE_3, hset]
              exact b1
            · have := b3.1
              omega
          have k2 := K2 H1 locs1 ls hdy hl
          rw [hg] at k2
          exact k2
        by_cases hff : (q.2.1 k).2.2.2 = true
        · have hf2 : mi.nm.name = "<init>" ∧ abDecl ci k = mi.nm.cls ∧ ne = 0 := by
            apply Classical.byContradiction
            intro hcon
            exact hfin ⟨by rw [hfq]; exact hff, hcon⟩
          exact va_putF (D := D) (C := q.1) (T := q.2.1) (N := q.2.2) hx hb hts hin (abTyp ci) ty1 ty2 hown hK a1 aWs_D a2.here (o - 2) he hq k hk (hts _ (w1 hf2.2.2)) hsame hff (hin2 hf2.1) (by rw [← hdq]; exact hf2.2.1) hd9 hnv hfv hlen hdg (fun H1 locs1 b1 b2 b3 => fin H1 locs1 b1 b3)
        · have hff' : (q.2.1 k).2.2.2 = false := by simpa using hff
          by_cases hne : ne = 0
          · exact va_put (D := D) (C := q.1) (T := q.2.1) (N := q.2.2) hx hb hts hin (abTyp ci) ty1 ty2 hown hK a1 aWs_D a2.here (o - 2) he hq k hk (hts _ (w1 hne)) hsame hff' hd9 hnv hfv hlen hdg (fun H1 locs1 b1 b2 b3 => fin H1 locs1 b1 b3)
          · exact va_putN (D := D) (C := q.1) (T := q.2.1) (N := q.2.2) hx hb hts hin (abTyp ci) ty1 ty2 hown hK a1 aWs_D a2.here (o - 2) he hq k hk (va_Nw.use rfl (hNw _ (w2 hne))) hsame hff' hd9 hnv hfv hlen hdg (fun H1 locs1 b1 b2 b3 => fin H1 locs1 b1 b3)
      obtain ⟨y0, y1, y2, -⟩ := ab_ty hq hk
      split at hn
      · rename_i a o S0
        split at hn
        · rename_i t1 n1 hT
          split at hn
          · rename_i hc
            obtain ⟨rfl, hc2⟩ := hc
            obtain ⟨rfl, rfl, rfl, rfl⟩ := ab_goE hn
            have hnf : narrow (abTyp ci k) (.int a) = .int a ∧ fits (abTyp ci k) (.int a) = true ∧ abKd ci k ≠ 2 := by
              rcases hc2 with hz | ⟨hz, ha⟩
              · rw [y0 hz, hz]
                exact ⟨rfl, rfl, by decide⟩
              · rw [y1 hz, hz]
                exact ⟨(ab_nb ha).2.1, (ab_nb ha).2.2, by decide⟩
            intro H locs ls hd hl
            refine key o S0 n1 (.int a) (pI h o k a) hT hnf.1 hnf.2.1 rfl (fun o' ho' => ⟨by rw [pI_I, if_neg ho'], rfl⟩) (oVs_set hk' (fun j hj => ⟨by rw [pI_I, if_pos rfl]; exact pk_un hj, rfl⟩) ?_) K H locs ls hd hl
            rw [if_neg hnf.2.2, pI_I, if_pos rfl]
            congr 1
            exact pk_us
          · cases hn
        · cases hn
      · rename_i a o S0
        split at hn
        · rename_i t1 n1 hT
          split at hn
          · rename_i hc
            obtain ⟨rfl, hc2⟩ := hc
            obtain ⟨rfl, rfl, rfl, rfl⟩ := ab_goE hn
            intro H locs ls hd hl
            refine key o S0 n1 (.ref (abAd B0 b t a)) (pR h o k (.ref a)) hT (y2 hc2 _).1 (y2 hc2 _).2 rfl (fun o' ho' => ⟨rfl, by rw [pR_R, if_neg ho']⟩) (oVs_set hk' (fun j hj => ⟨rfl, by rw [pR_R, if_pos rfl]; exact if_neg hj⟩) ?_) K H locs ls hd hl
            rw [if_pos hc2, pR_R, if_pos rfl]
            simp only [if_true]
            rfl
          · cases hn
        · cases hn
      · cases hn
  · cases hn
end SNP
