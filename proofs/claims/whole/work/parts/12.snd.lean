/-! SOUNDNESS OF RUNS: a method that runs in the abstract machine meets its contract -/
theorem ab_num1 {a a1 c0 R : Nat} (h1 : c0 ≤ a) (h2 : a ≤ a1) (h3 : a1 - c0 ≤ R) : a - c0 + (a1 - a) ≤ R := by omega
theorem ab_num2 {a a1 c0 : Nat} (h1 : c0 ≤ a) (h2 : a ≤ a1) : a - c0 + (a1 - a) = a1 - c0 := by omega
theorem ab_num3 {d R mL : Nat} (h1 : mL ≤ 40) (h2 : (d + 1) * 64 ≤ R) : 8 + (mL + 11) + d * 64 ≤ R := by omega
theorem okCi {cn ci : Nat} {r : vw_C} (h : abCi[cn]? = some ci) (hr : vwCl[ci]? = some r) {C : String} (hC : abCN[cn]? = some C) : r.1 = C := by
  have hall : (List.range 13).all (fun i => match abCi[i]? with
    | some j => (match vwCl[j]? with
      | some r => decide (abCN[i]? = some r.1)
      | none => true)
    | none => true) = true := by decide +kernel
  have hl : cn < 13 := (List.getElem?_eq_some_iff.mp h).1
  have h1 := List.all_eq_true.mp hall cn (List.mem_range.mpr hl)
  simp only [h, hr, decide_eq_true_eq] at h1
  exact Option.some.inj (h1.symm.trans hC)
theorem okMw {mj : abMI} (h : okMp mj) : GoodIn abW0 (abWs mj) ∧ Cond.initialized mj.nm.cls ∈ abW0 ∧ (mj.nm.cls ≠ "java/lang/invoke/MethodHandle" ∧ mj.nm.cls ≠ "java/lang/invoke/VarHandle" ∧ (parseMethodDescriptor mj.nm.desc).map (fun d => d.parameters.length) = some mj.np) ∧ plainName mj.nm.cls = true := by
  obtain ⟨h1, h15, h2, h3, h4, h5, h6⟩ := h
  have hn := List.all_eq_true.mp okNoH _ (List.mem_of_getElem? h1)
  simp only [abNoH, Bool.and_eq_true, Bool.or_eq_true, decide_eq_true_eq] at hn
  refine ⟨fun w hw => ?_, abW0_in h3 rfl, ⟨hn.1.1, hn.1.2, h4⟩, ?_⟩
  · rcases List.mem_cons.mp hw with rfl | hw
    · exact abW0_good _ (abW0_in h2 rfl)
    · exact abW0_good w hw
  · rcases hn.2 with q | q
    · exact q
    · exfalso
      have hdup : ∀ i, i < 17 → abCN[i]? = some "java/lang/Math" → i = 15 := by decide +kernel
      have hl : mj.cn < 17 := (List.getElem?_eq_some_iff.mp h1).1
      exact h15 (hdup _ hl (by rw [h1, q]))
section SNC
variable {p : Program} {l : Launch} {e : Env} {R : Room} {s : State} {m : MethodId} {args : Array Value} {below : List Frame} {meth : Method} {c : Code} {Q : State → Prop} {mi : abMI} {D : va_G} {cy : Nat → ClassId} {B0 b t Ln : Nat} {xs : Nat → Int32} {c0 s0 : Nat} {d pc pc' len y : Nat} {L S L' S' as : List Value} {h h1 : abH} {v : Option Value}
/-- what is said of a callee -/
def abMet (l : Launch) (mj : abMI) (D : va_G) (cy : Nat → ClassId) (B0 b t Ln : Nat) (xs : Nat → Int32) (d : Nat) (as : List Value) (h : abH) (v : Option Value) (h1 : abH) : Prop :=
  Met l mj.nm (abWs mj) (abRm d (h1.1.length - h.1.length) (absz h1.1 - absz h.1)) (va_Pc (as.map (tr (abAd B0 b t))) (abPre D cy B0 b t Ln xs h)) (abQ D cy B0 b t Ln xs v h1) (h1.1.length - h.1.length) (absz h1.1 - absz h.1) (fun q : Nat => B0 ≤ q)
set_option maxHeartbeats 4000000 in
theorem sd_call {ins : Instr} (F : abG p l e R s m args below meth c Q mi D cy B0 b t Ln xs c0 s0 (d + 1)) (hdg : decode mi.by pc = .ok (ins, len)) (hn : ab_ins (d + 1) mi pc len L S h ins = some (.inr (.inr (y, as, pc', S')))) (hM : ∀ mj : abMI, abMT[y]? = some mj → okMp mj → (ab_ent as).length ≤ mj.mL → abMet l mj D cy B0 b t Ln xs d as h v h1)
    (hv : ∀ mj : abMI, abMT[y]? = some mj → v = none ∨ ∃ r, v = some (.int r)) (hvn : ∀ mj : abMI, abMT[y]? = some mj → mj.rt = none → v = none)
    (K : abW p l e R s m args below meth c Q mi D cy B0 b t Ln xs c0 s0 pc' L (ab_ps v S') h1) (hc0 : c0 ≤ h.1.length) (hs0 : s0 ≤ absz h.1) (hg1 : h.1.length ≤ h1.1.length) (hg2 : absz h.1 ≤ absz h1.1) (hr1 : h1.1.length - c0 ≤ R.cells) (hr2 : absz h1.1 - s0 ≤ R.slots) : abW p l e R s m args below meth c Q mi D cy B0 b t Ln xs c0 s0 pc L S h := by
  obtain ⟨Fx, St, hsz⟩ := F
  obtain ⟨hx, hb, -, hml, hown, hts, -, -, hK, hR1, hR2, hNw, hAO, hcn⟩ := id Fx
  obtain ⟨rfl, rfl, h4, ix, kd, i1, i2, i3, mj, hix, hf, hmj, hlen, hsh⟩ := ab_callE hn
  obtain ⟨mj', hmj', hok, w0, w1, w2, w3, w4, w5, -⟩ := okC_at hf (own := mi.nm.cls) (by rw [(ab_key hix).1]; exact hcn)
  cases hmj.symm.trans hmj'
  rw [(ab_key hix).2] at w0 w1 w2 w3 w4 w5
  have M := hM mj hmj hok hlen
  obtain ⟨g1, g2, g3, g4⟩ := okMw hok
  have hmL : mj.mL ≤ 40 := hok.2.2.2.2.2.2
  intro H locs ls hd hl
  have hcat := ab_cat S' (abAd B0 b t) h4
  obtain ⟨a1, a2, a3, a4⟩ := id hd
  have hroom : (abRm d (h1.1.length - h.1.length) (absz h1.1 - absz h.1)).frames + 1 ≤ R.frames ∧ 8 + (mj.mL + 11) + (abRm d (h1.1.length - h.1.length) (absz h1.1 - absz h.1)).locals ≤ R.locals := by
    refine ⟨hR1, ?_⟩
    show 8 + (mj.mL + 11) + d * 64 ≤ R.locals
    exact ab_num3 hmL hR2
  have hfit : h.1.length - c0 + (h1.1.length - h.1.length) ≤ R.cells ∧ absz h.1 - s0 + (absz h1.1 - absz h.1) ≤ R.slots := ⟨ab_num1 hc0 hg1 hr1, ab_num1 hs0 hg2 hr2⟩
  have hpre : ∀ U : State, U.heap = H → s.WarmedH U.vm → va_Pc (as.map (tr (abAd B0 b t))) (abPre D cy B0 b t Ln xs h) (as.map (tr (abAd B0 b t))).toArray U := fun U hU hW => ⟨rfl, abPre.of Fx St hd hU hW⟩
  have hfix : CallFix p m c mi.by mi.mL s args abW0 mi.nm.cls := ⟨hx, hb, hml, hown, hts⟩
  have hsize : (F0 m pc ls (S.map (tr (abAd B0 b t)))).locals.size = mi.mL := hl.2.1
  -- behind the call
  have fin : va_Run p l e R s m args below meth c H locs (h.1.length - c0) (absz h.1 - s0) (h1.1.length - h.1.length) (absz h1.1 - absz h.1) (F0 m pc ls (S.map (tr (abAd B0 b t)))) (S'.map (tr (abAd B0 b t))) (abQ D cy B0 b t Ln xs v h1 (as.map (tr (abAd B0 b t))).toArray) (fun q : Nat => B0 ≤ q) → W p l e R s m args below meth c H locs (h.1.length - c0) (absz h.1 - s0) Q (F0 m pc ls (S.map (tr (abAd B0 b t)))) := by
    intro hr
    have ec : h.1.length - c0 + (h1.1.length - h.1.length) = h1.1.length - c0 := ab_num2 hc0 hg1
    have es : absz h.1 - s0 + (absz h1.1 - absz h.1) = absz h1.1 - s0 := ab_num2 hs0 hg2
    rcases hv mj hmj with rfl | ⟨r, rfl⟩
    · refine va_callv (a := (as.map (tr (abAd B0 b t))).toArray) hr a2 (fun q _ hq => hq) (fun q hq => hq) (fun u T H1 locs1 ht hvm hw hB hz1 hk1 hS => ?_)
      rw [ec, es]
      obtain ⟨b1, b2, b3⟩ := hB
      rw [ht] at b1 b2
      exact K H1 locs1 ls ⟨b1, hS, b2, b3⟩ hl
    · refine va_calli (a := (as.map (tr (abAd B0 b t))).toArray) hr a2 (fun q _ hq => hq) (fun q hq => hq) (fun r' u T H1 locs1 ht hvm hw hB hz1 hk1 hS => ?_)
      rw [ec, es]
      obtain ⟨b1, b2, b3⟩ := hB
      rw [ht] at b1 b2
      rw [hw]
      exact K H1 locs1 ls ⟨b1, hS, b2, b3⟩ hl
  rcases hsh with ⟨rfl, hkd, hnp, rfl⟩ | ⟨o, as', rfl, hnp, rfl, hcase⟩
  · have hst : (as.reverse ++ S').map (tr (abAd B0 b t)) = (as.map (tr (abAd B0 b t))).reverse ++ S'.map (tr (abAd B0 b t)) := by rw [List.map_append, List.map_reverse]
    rcases hkd with rfl | rfl
    · obtain ⟨v1, v2⟩ := w2 rfl
      exact fin (va_runS (As := as.map (tr (abAd B0 b t))) hfix M ⟨callB_of mj.np hts g1 rfl rfl rfl (hts _ g2) (hts _ v1) g3 hroom, hts _ v2⟩ ⟨abPre.blind, hpre⟩ rfl (by rw [List.length_map]; exact hnp) hsize hst (by show 2 * 0 + _ ≤ 8; rw [Nat.mul_zero, Nat.zero_add]; exact hcat) hdg hfit)
    · obtain ⟨v1, v2⟩ := w3 rfl
      exact fin (va_runSN (As := as.map (tr (abAd B0 b t))) hfix M ⟨va_cnB mj.np hts g1 rfl rfl rfl (hNw _ v1) (hts _ g2) g3 hroom, hts _ v2, trivial⟩ ⟨abPre.blind, hpre⟩ rfl (by rw [List.length_map]; exact hnp) hsize hst (by show 2 * 0 + _ ≤ 8; rw [Nat.mul_zero, Nat.zero_add]; exact hcat) hdg hfit)
  · have hst : (as'.reverse ++ .ref o :: S').map (tr (abAd B0 b t)) = (as'.map (tr (abAd B0 b t))).reverse ++ .ref (abAd B0 b t o) :: S'.map (tr (abAd B0 b t)) := by rw [List.map_append, List.map_reverse]; rfl
    rcases hcase with ⟨rfl, hkd⟩ | ⟨rfl, hkd, htag⟩
    · have hrt : mj.rt = none := by
        rcases hkd with rfl | rfl
        · exact (w4 rfl).2.2.2
        · exact (w5 rfl).2.2.2
      obtain ⟨nm, byt, mL, rt, np, cn, iC, iI⟩ := mj
      have hrt : rt = none := hrt
      subst hrt
      rcases hkd with rfl | rfl
      · obtain ⟨v1, v2, v3, -⟩ := w4 rfl
        exact fin (va_runI (As := as'.map (tr (abAd B0 b t))) hfix M ⟨callB_of np hts g1 rfl rfl rfl (hts _ g2) (hts _ v1) g3 hroom, v3, hts _ v2⟩ ⟨abPre.blind, hpre⟩ rfl (by rw [List.length_map]; exact hnp) hsize hst (by show 2 * 0 + _ ≤ 8; rw [Nat.mul_zero, Nat.zero_add]; exact hcat) hdg hfit)
      · obtain ⟨v1, v2, v3, -⟩ := w5 rfl
        exact fin (va_runIN (As := as'.map (tr (abAd B0 b t))) hfix M ⟨va_cnB np hts g1 rfl rfl rfl (hNw _ v1) (hts _ g2) g3 hroom, v3, hts _ v2⟩ ⟨abPre.blind, hpre⟩ rfl (by rw [List.length_map]; exact hnp) hsize hst (by show 2 * 0 + _ ≤ 8; rw [Nat.mul_zero, Nat.zero_add]; exact hcat) hdg hfit)
    · have hrec : ∃ cell : Cell, H[abAd B0 b t o]? = some cell ∧ cell.vm.isStatics = false ∧ s.vm.findClass mj.nm.cls = some cell.cls := by
        cases hT : gT h o with
        | none => rw [hT] at htag; cases htag
        | some q =>
          obtain ⟨t1, n1⟩ := q
          rw [hT] at htag
          have ht1 : t1 = abCi.getD mj.cn 99 + 3 := Option.some.inj htag
          subst ht1
          have hci2 : abCi.getD mj.cn 99 < 12 ∨ abCi.getD mj.cn 99 = 99 := by
            by_cases hl13 : mj.cn < 13
            · have h1 : (List.range 13).all (fun i => decide (abCi.getD i 99 < 12 ∨ abCi.getD i 99 = 99)) = true := by decide +kernel
              have h2 := List.all_eq_true.mp h1 mj.cn (List.mem_range.mpr hl13)
              exact of_decide_eq_true h2
            · right
              rw [List.getD_eq_getElem?_getD, List.getElem?_eq_none (Nat.not_lt.mp hl13)]
              rfl
          have h2o : 2 ≤ o := by
            obtain ⟨p0, p1, -⟩ := a4
            match o, hT with
            | 0, hT =>
              rw [p0] at hT
              exact absurd (Prod.mk.inj (Option.some.inj hT)).1 (by rcases hci2 with q | q <;> omega)
            | 1, hT =>
              rw [p1] at hT
              exact absurd (Prod.mk.inj (Option.some.inj hT)).1 (by rcases hci2 with q | q <;> omega)
            | n + 2, _ => exact Nat.le_add_left 2 n
          have he := aWs_at (cy := cy) (ad := abAd B0 b t) hT h2o
          rw [oE_3] at he
          obtain ⟨r, hr, -⟩ := a1 _ _ he
          have hr : vwCl[abCi.getD mj.cn 99]? = some r := hr
          have hcc : abCi[mj.cn]? = some (abCi.getD mj.cn 99) := by
            by_cases hl13 : mj.cn < 13
            · rw [List.getD_eq_getElem?_getD, List.getElem?_eq_getElem (l := abCi) hl13]
              rfl
            · exfalso
              rw [List.getD_eq_getElem?_getD, List.getElem?_eq_none (l := abCi) (Nat.not_lt.mp hl13)] at hr
              cases hr
          have hrC := okCi hcc hr hok.1
          rw [← hrC]
          exact va_recv hK a1 hr he
      rcases hkd with rfl | rfl
      · obtain ⟨v1, v2, v3⟩ := w0 rfl
        exact fin (va_runV (As := as'.map (tr (abAd B0 b t))) (C := mj.nm.cls) hfix M ⟨callB_of mj.np hts g1 rfl rfl rfl (hts _ g2) (hts _ v1) g3 hroom, hts _ v2, hts _ v3⟩ ⟨abPre.blind, hrec, hpre⟩ rfl (by rw [List.length_map]; exact hnp) hsize hst (by show 2 * 0 + _ ≤ 8; rw [Nat.mul_zero, Nat.zero_add]; exact hcat) hdg hfit)
      · obtain ⟨v1, v2, v3⟩ := w1 rfl
        exact fin (va_runVN (As := as'.map (tr (abAd B0 b t))) (C := mj.nm.cls) hfix M ⟨va_cnB mj.np hts g1 rfl rfl rfl (hNw _ v1) (hts _ g2) g3 hroom, hts _ v2, hts _ v3⟩ ⟨abPre.blind, hrec, hpre⟩ rfl (by rw [List.length_map]; exact hnp) hsize hst (by show 2 * 0 + _ ≤ 8; rw [Nat.mul_zero, Nat.zero_add]; exact hcat) hdg hfit)
end SNC
