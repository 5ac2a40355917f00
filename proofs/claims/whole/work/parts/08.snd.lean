/-! SOUNDNESS, ONE INSTRUCTION: makings, the library's, all together -/
section SNM
variable {p : Program} {l : Launch} {e : Env} {R : Room} {s : State} {m : MethodId} {args : Array Value} {below : List Frame} {meth : Method} {c : Code} {Q : State → Prop} {mi : abMI} {D : va_G} {cy : Nat → ClassId} {B0 b t Ln : Nat} {xs : Nat → Int32} {c0 s0 : Nat} {d pc pc' len : Nat} {L S L' S' : List Value} {h h' : abH}
theorem abDy.make {H H1 : Heap} {locs : List Loc} {t1 n1 : Nat} (hd : abDy D cy B0 b t Ln xs s h H locs) (ht : t1 < 100) (z1 : H1.size = H.size + 1) (o1 : ∀ q : Nat, q < H.size → H1[q]? = H[q]?) (hat : va_at D vwCl (H.size, oE cy (abAd B0 b t) (nO h t1 n1) h.1.length (t1, n1)) H1) : abDy D cy B0 b t Ln xs s (nO h t1 n1) H1 locs ∧ H.size = abAd B0 b t h.1.length := by
  obtain ⟨a1, a2, a3, a4⟩ := hd
  have hl := a4.len
  have had : H.size = abAd B0 b t h.1.length := by rw [abAd_new hl]; omega
  refine ⟨⟨?_, ⟨Nat.le_trans a2.1 (by omega), fun q h1 h2 => (o1 q (Nat.lt_of_lt_of_le h1 a2.1)).trans (a2.2.1 q h1 h2), a2.2.2⟩, ?_, ?_⟩, had⟩
  · rw [aWs_push hl]
    refine va_P.app (va_P.kept a1 (fun k q hk => o1 q.1 (a1 k q hk).lt)) (fun k q hk => ?_)
    have hk0 : k < 1 := (List.getElem?_eq_some_iff.mp hk).1
    rw [show k = 0 by omega] at hk
    cases hk
    rw [← had]
    exact hat
  · show H1.size + 2 = B0 + (h.1 ++ [(t1, n1)]).length
    rw [List.length_append, List.length_singleton]
    omega
  · obtain ⟨p0, p1, p2, p3⟩ := a4
    refine ⟨?_, ?_, fun j hj => ?_, fun j hj => ?_⟩
    · show (h.1 ++ [(t1, n1)])[0]? = _
      rw [List.getElem?_append_left (by omega)]
      exact p0
    · show (h.1 ++ [(t1, n1)])[1]? = _
      rw [List.getElem?_append_left (by omega)]
      exact p1
    · rw [nO_I (by omega)]; exact p2 j hj
    · rw [nO_I (by omega)]; exact p3 j hj
theorem nO_len {t1 n1 : Nat} : (nO h t1 n1).1.length = h.1.length + 1 := by show (h.1 ++ [(t1, n1)]).length = _; simp
theorem nO_sz {t1 n1 : Nat} : absz (nO h t1 n1).1 = absz h.1 + n1 := absz_push _ _ _
theorem nO_I0 {t1 n1 : Nat} : gI (nO h t1 n1) h.1.length = fun _ => 0 := by unfold gI nO; simp
theorem nO_R0 {t1 n1 : Nat} : gR (nO h t1 n1) h.1.length = fun _ => .null := by funext k; unfold gR nO; simp
theorem sd_newa {at0 : ArrayType} {t1 : Nat} (ht1 : (at0 = .int ∧ t1 = 0) ∨ (at0 = .boolean ∧ t1 = 1)) (F : abG p l e R s m args below meth c Q mi D cy B0 b t Ln xs c0 s0 d) (hdg : decode mi.by pc = .ok (.newarray at0, 2)) (hn : ab_newa t1 pc L S h = some (.inl (pc', L', S', h'))) (K : abW p l e R s m args below meth c Q mi D cy B0 b t Ln xs c0 s0 pc' L' S' h') (hc0 : c0 ≤ h.1.length) (hs0 : s0 ≤ absz h.1) (hr1 : h'.1.length - c0 ≤ R.cells) (hr2 : absz h'.1 - s0 ≤ R.slots) : abW p l e R s m args below meth c Q mi D cy B0 b t Ln xs c0 s0 pc L S h := by
  obtain ⟨⟨hx, hb, -, -, hown, hts, -, -, hK, -⟩, -, hsz⟩ := F
  unfold ab_newa at hn
  split at hn
  · rename_i n S0
    split at hn
    · rename_i hc
      obtain ⟨rfl, rfl, rfl, rfl⟩ := ab_goE hn
      obtain ⟨hn0, hn1⟩ := hc
      rw [nO_len] at hr1
      rw [nO_sz] at hr2
      intro H locs ls hd hl
      have kk : ∀ (H1 : Heap), abDy D cy B0 b t Ln xs s (nO h t1 n.toNatClampNeg) H1 locs ∧ H.size = abAd B0 b t h.1.length → W p l e R s m args below meth c H1 locs (h.1.length - c0 + 1) (absz h.1 - s0 + n.toNatClampNeg) Q (F0 m (pc + 2) ls (.ref H.size :: S0.map (tr (abAd B0 b t)))) := by
        intro H1 hq
        have k2 := K H1 locs ls hq.1 hl
        rw [nO_len, nO_sz, show h.1.length + 1 - c0 = h.1.length - c0 + 1 by omega, show absz h.1 + n.toNatClampNeg - s0 = absz h.1 - s0 + n.toNatClampNeg by omega] at k2
        rw [hq.2]
        exact k2
      rcases ht1 with ⟨rfl, rfl⟩ | ⟨rfl, rfl⟩
      · refine va_newaK hx hb (atype := .int) (hts _ abArrI_in) rfl hdg rfl hn0 rfl (show n.toNatClampNeg * 4 ≤ 536870912 by omega) (by omega) (by omega) rfl (fun H1 cA e1 z1 o1 hAr hNm => kk H1 (hd.make (Nat.le_of_ble_eq_true rfl) z1 o1 ?_))
        have hcA : cA = cy 0 := Option.some.inj (hNm.symm.trans (hK.2 0 _ abTy0).2)
        rw [oE_0, nO_I0, ← hcA]
        exact e1
      · refine va_newaK hx hb (atype := .boolean) (hts _ abArrZ_in) rfl hdg rfl hn0 rfl (show n.toNatClampNeg * 1 ≤ 536870912 by omega) (by omega) (by omega) rfl (fun H1 cA e1 z1 o1 hAr hNm => kk H1 (hd.make (Nat.le_of_ble_eq_true rfl) z1 o1 ?_))
        have hcA : cA = cy 1 := Option.some.inj (hNm.symm.trans (hK.2 1 _ abTy1).2)
        rw [oE_1, nO_I0, ← hcA]
        exact e1
    · cases hn
  · cases hn
theorem okN_at {key ci : Nat} {w : Nat × Nat × Nat} (hf : abNT.lookup key = some (ci, w)) {own : String} (ho : abCN[key / 4096]? = some own) : ∃ q : vw_C, vwCl[ci]? = some q ∧ Cond.classLink own (key % 4096) q.1 ∈ abW0 ∧ Cond.instantiable q.1 q.2.2 ∈ abW0 ∧ Cond.initialized q.1 ∈ abW0 := by
  have h1 := List.all_eq_true.mp okN_all _ (ab_look hf)
  unfold okN at h1
  rw [ho] at h1
  split at h1
  · rename_i own' q e2 e1
    cases e2
    simp only [Bool.and_eq_true] at h1
    exact ⟨q, e1, abGd_in h1.1.1, abGd_in h1.1.2, abGd_in h1.2⟩
  · cases h1
theorem sd_new {ix : Nat} (hix : ix < 4096) (F : abG p l e R s m args below meth c Q mi D cy B0 b t Ln xs c0 s0 d) (hdg : decode mi.by pc = .ok (.new ix, 3)) (hn : ab_new mi ix pc L S h = some (.inl (pc', L', S', h'))) (K : abW p l e R s m args below meth c Q mi D cy B0 b t Ln xs c0 s0 pc' L' S' h') (hc0 : c0 ≤ h.1.length) (hs0 : s0 ≤ absz h.1) (hr1 : h'.1.length - c0 ≤ R.cells) (hr2 : absz h'.1 - s0 ≤ R.slots) : abW p l e R s m args below meth c Q mi D cy B0 b t Ln xs c0 s0 pc L S h := by
  obtain ⟨⟨hx, hb, -, -, hown, hts, -, -, hK, -, -, -, -, hcn⟩, -, hsz⟩ := F
  unfold ab_new at hn
  split at hn
  · rename_i ci w hf
    split at hn
    · rename_i hci
      obtain ⟨rfl, rfl, rfl, rfl⟩ := ab_goE hn
      obtain ⟨q, hq, w1, w2, w3⟩ := okN_at hf (own := mi.nm.cls) (by rw [(ab_key hix).1]; exact hcn)
      rw [(ab_key hix).2] at w1
      rw [nO_len] at hr1
      rw [nO_sz] at hr2
      have hN := (okK_at hq).1
      rw [hN] at hr2
      intro H locs ls hd hl
      have hin : ∀ w ∈ u_ws q.1 q.2.1 q.2.2, w ∈ abW0 := fun w hw => okU q (List.mem_of_getElem? hq) hw
      have hKn := hK.1 ci q hq
      obtain ⟨ty1, ty2⟩ := okTy hq
      refine W.newcK hx hb hown (hts _ w1) (hts _ w2) (hts _ w3) rfl hdg (by omega) (by omega) hKn.2.1 rfl (fun H1 kC hkC e1 z1 o1 => ?_)
      have hm := hd.make (n1 := q.2.2) (t1 := ci + 3) (show ci + 3 < 100 by omega) z1 o1 (by
        rw [oE_3]
        refine ⟨q, hq, (u_born (abTyp ci) hts hin hKn hkC e1 ty1).to (fun j hj => ?_)⟩
        rw [vp_V, List.getD_eq_getElem?_getD, oVs_at (by rw [hN]; exact hj), nO_I0, nO_R0, (ab_ty hq hj).2.2.2]
        rfl)
      rw [hN] at K
      have k2 := K H1 locs ls hm.1 hl
      rw [nO_len, nO_sz, show h.1.length + 1 - c0 = h.1.length - c0 + 1 by omega, show absz h.1 + q.2.2 - s0 = absz h.1 - s0 + q.2.2 by omega] at k2
      rw [hm.2]
      exact k2
    · cases hn
  · cases hn
theorem sd_newq {ix : Nat} (hix : ix < 4096) (F : abG p l e R s m args below meth c Q mi D cy B0 b t Ln xs c0 s0 d) (hdg : decode mi.by pc = .ok (.anewarray ix, 3)) (hn : ab_newq mi ix pc L S h = some (.inl (pc', L', S', h'))) (K : abW p l e R s m args below meth c Q mi D cy B0 b t Ln xs c0 s0 pc' L' S' h') (hc0 : c0 ≤ h.1.length) (hs0 : s0 ≤ absz h.1) (hr1 : h'.1.length - c0 ≤ R.cells) (hr2 : absz h'.1 - s0 ≤ R.slots) : abW p l e R s m args below meth c Q mi D cy B0 b t Ln xs c0 s0 pc L S h := by
  obtain ⟨⟨hx, hb, -, -, hown, hts, -, -, hK, -, -, -, hAO, hcn⟩, -, hsz⟩ := F
  unfold ab_newq at hn
  split at hn
  · rename_i ci w hf
    split at hn
    · rename_i n S0
      split at hn
      · rename_i hc
        obtain ⟨rfl, rfl, rfl, rfl⟩ := ab_goE hn
        obtain ⟨rfl, hn0, hn1⟩ := hc
        obtain ⟨q, hq, w1, w2, w3⟩ := okN_at hf (own := mi.nm.cls) (by rw [(ab_key hix).1]; exact hcn)
        rw [(ab_key hix).2] at w1
        cases hq
        rw [nO_len] at hr1
        rw [nO_sz] at hr2
        intro H locs ls hd hl
        refine W.anew (C := "BufferRoom$Sheet") hx hb hown (hts _ w1) (va_AO.use hAO) rfl hdg rfl hn0 (by omega) (by omega) (by omega) (fun cA kA comp f1 f2 f3 f4 => ?_)
        generalize hH1 : H.push ({ cls := cA, slots := Array.replicate n.toNatClampNeg .null, vm := .none } : Cell) = H1
        have z1 : H1.size = H.size + 1 := by rw [← hH1, Array.size_push]
        have e1 : H1[H.size]? = some (arrV cA n.toNatClampNeg (fun _ => .null)) := by rw [← hH1, Array.getElem?_push_size, ← arrV_new]
        have o1 : ∀ q : Nat, q < H.size → H1[q]? = H[q]? := fun q hq => by rw [← hH1, Array.getElem?_push, if_neg (Nat.ne_of_lt hq)]
        have hcA : cA = cy 2 := by
          obtain ⟨kA2, comp2, g1, g2, g3, g4⟩ := (hK.2 2 _ abTy2).2
          exact Option.some.inj (f1.symm.trans g4)
        have hm := hd.make (n1 := n.toNatClampNeg) (t1 := 2) (Nat.le_of_ble_eq_true rfl) z1 o1 (by
          rw [oE_2, nO_R0, ← hcA]
          show H1[H.size]? = some (vp_cell _ _)
          rw [vp_cell_q]
          exact e1)
        have k2 := K H1 locs ls hm.1 hl
        rw [nO_len, nO_sz, show h.1.length + 1 - c0 = h.1.length - c0 + 1 by omega, show absz h.1 + n.toNatClampNeg - s0 = absz h.1 - s0 + n.toNatClampNeg by omega] at k2
        rw [hm.2]
        exact k2
      · cases hn
    · cases hn
  · cases hn
theorem ab_cat (S0 : List Value) (ad : Nat → Nat) (h4 : abCat S0 ≤ 8) : ((S0.map (tr ad)).map fun v => v.category).sum ≤ 8 := by
  have e : (S0.map (tr ad)).map (fun v => v.category) = S0.map (fun v => v.category) := by
    rw [List.map_map]
    exact List.map_congr_left fun v _ => tr_cat ad v
  rw [e]
  exact h4
theorem sd_acpy {ix : Nat} (w1 : Cond.methodLink mi.nm.cls ix arraycopyName ∈ abW0) (w2 : Cond.native arraycopyName ∈ abW0) (w3 : Cond.static arraycopyName ∈ abW0) (F : abG p l e R s m args below meth c Q mi D cy B0 b t Ln xs c0 s0 d) (hdg : decode mi.by pc = .ok (.invokestatic ix, 3)) (hn : ab_acpy d pc L S h = some (.inl (pc', L', S', h'))) (K : abW p l e R s m args below meth c Q mi D cy B0 b t Ln xs c0 s0 pc' L' S' h') (hc0 : c0 ≤ h.1.length) : abW p l e R s m args below meth c Q mi D cy B0 b t Ln xs c0 s0 pc L S h := by
  obtain ⟨⟨hx, hb, -, hml, hown, hts, -, -, hK, hR1, hR2, -, -, hcn⟩, -, hsz⟩ := F
  unfold ab_acpy at hn
  split at hn
  · rename_i n dp a sp a0 S0
    split at hn
    · rename_i t0 n0 hT0
      split at hn
      · rename_i t1 n1 hT1
        split at hn
        · rename_i hc
          obtain ⟨rfl, rfl, rfl, rfl⟩ := ab_goE hn
          obtain ⟨⟨rfl, rfl, h4, hd0⟩, k1, k2, k3, k4, k5⟩ := hc
          intro H locs ls hd hl
          have hd' := hd
          obtain ⟨a1, a2, a3, a4⟩ := hd
          have hcat := ab_cat S0 (abAd B0 b t) h4
          have hnat : nativeFrameWords "java/lang/System" "arraycopy" 5 + 11 ≤ 40 := by decide +kernel
          refine va_copyi (a0 := abAd B0 b t a0) (a := abAd B0 b t a) (ty := .int) hx hb (hml.trans hl.2.1.symm) hown (hts _ w1) (hts _ w2) (hts _ w3) (hts _ abSys_in) hK a1 aWs_D a2.here (a0 - 2) (a - 2) 0 0 (aWs_at hT0 (a4.two hT0 (Nat.le_of_ble_eq_true rfl))) (aWs_at hT1 (a4.two hT1 (Nat.le_of_ble_eq_true rfl))) abTy0 abTy0 rfl k1 k2 k3 k4 k5 (fun _ _ => rfl) (by omega) (by omega) hdg (fun H1 locs1 b1 b2 b3 => ?_)
          refine W_sz fun hz => ?_
          refine K H1 locs1 ls (hd'.put hT1 (Nat.le_of_ble_eq_true rfl) rfl (fun o' ho' => ⟨by rw [pA_I, if_neg ho'], rfl⟩) ?_ (a2.then b3) ?_) hl
          · rw [oE_0, pA_I, if_pos rfl]
            exact b1
          · have := b3.1
            omega
        · cases hn
      · cases hn
    · cases hn
  · cases hn
end SNM
