/-! SOUNDNESS OF RUNS: the end -/
theorem ab_kind : ∀ (n d y pc : Nat) (L S : List Value) (h : abH) (r : Option Value × abH), ab_run n d y pc L S h = some r → ∀ mi : abMI, abMT[y]? = some mi → (r.1 = none ∨ ∃ v, r.1 = some (.int v)) ∧ (mi.rt = none → r.1 = none) := by
  intro n
  induction n with
  | zero => intro d y pc L S h r e; cases e
  | succ n ih =>
    intro d y pc L S h r e mi hmi
    rw [ab_run] at e
    split at e <;> rename_i q
    · cases e
    · exact ih _ _ _ _ _ _ _ e mi hmi
    · cases e
      obtain ⟨mi', ins, len, h1, h2, h3⟩ := ab_nextE q
      cases hmi.symm.trans h1
      obtain ⟨-, h4⟩ := ab_retE (v := r.1) (h' := r.2) h3
      rcases h4 with ⟨h4, -⟩ | ⟨v, h4, -, -, -, h5⟩
      · exact ⟨Or.inl h4, fun _ => h4⟩
      · refine ⟨Or.inr ⟨v, h4⟩, fun hrt => ?_⟩
        rcases h5 with h5 | ⟨h5, -⟩ <;> rw [hrt] at h5 <;> cases h5
    · cases d with
      | zero => cases e
      | succ d' =>
        simp only at e
        split at e
        · cases e
        · exact ih _ _ _ _ _ _ _ e mi hmi
theorem ab_start_eq {y : Nat} {as : List Value} {mj : abMI} (h : abMT[y]? = some mj) : ab_start y as = ab_entry mj.mL as := by
  unfold ab_start
  rw [h]
section SNR
variable {l : Launch} {D : va_G} {cy : Nat → ClassId} {B0 b t Ln : Nat} {xs : Nat → Int32}
/-- the body of a method: whatever is behind its return -/
theorem sd_run : ∀ (n d y pc : Nat) (L S : List Value) (h : abH) (r : Option Value × abH), ab_run n d y pc L S h = some r → ∀ (mi : abMI), abMT[y]? = some mi → ∀ (p : Program) (e : Env) (R : Room) (s : State) (m : MethodId) (args : Array Value) (below : List Frame) (meth : Method) (c : Code) (Q : State → Prop) (c0 s0 : Nat),
    abG p l e R s m args below meth c Q mi D cy B0 b t Ln xs c0 s0 d → c0 ≤ h.1.length → s0 ≤ absz h.1 → r.2.1.length - c0 ≤ R.cells → absz r.2.1 - s0 ≤ R.slots →
    (∀ (H : Heap) (locs : List Loc) (ls : Array Slot) (pc : Nat) (st : List Value), abDy D cy B0 b t Ln xs s r.2 H locs → ((r.1 = none ∧ st = [] ∧ decode mi.by pc = .ok (.return_, 1) ∧ mi.rt = none) ∨ ∃ v : Int32, r.1 = some (.int v) ∧ st = [.int v] ∧ decode mi.by pc = .ok (.ireturn, 1) ∧ (mi.rt = some .int ∨ mi.rt = some .boolean ∧ (v = 0 ∨ v = 1))) → W p l e R s m args below meth c H locs (r.2.1.length - c0) (absz r.2.1 - s0) Q (F0 m pc ls st)) →
    abW p l e R s m args below meth c Q mi D cy B0 b t Ln xs c0 s0 pc L S h := by
  intro n
  induction n with
  | zero => intro d y pc L S h r e; cases e
  | succ n ih =>
    intro d y pc L S h r run mi hmi p e R s m args below meth c Q c0 s0 F hc0 hs0 hr1 hr2 hret
    have hrun := run
    rw [ab_run] at run
    split at run <;> rename_i q
    · cases run
    · obtain ⟨mi', ins, len, h1, h2, h3⟩ := ab_nextE q
      cases hmi.symm.trans h1
      have hg := ab_grow _ _ _ _ _ _ _ _ run
      have hg2 := ab_grI h3
      have hc1 : ∀ g : List (Nat × Nat), (g = h.1 ∨ ∃ t n, g = h.1 ++ [(t, n)]) → c0 ≤ g.length ∧ s0 ≤ absz g := by
        rintro g (rfl | ⟨t, k, rfl⟩)
        · exact ⟨hc0, hs0⟩
        · rw [absz_push, List.length_append]
          exact ⟨Nat.le_trans hc0 (Nat.le_add_right _ _), Nat.le_trans hs0 (Nat.le_add_right _ _)⟩
      obtain ⟨hc2, hs2⟩ := hc1 _ hg2
      exact sd_ins F h2 h3 (ih _ _ _ _ _ _ _ run mi hmi p e R s m args below meth c Q c0 s0 F hc2 hs2 hr1 hr2 hret) hc0 hs0 (Nat.le_trans (Nat.sub_le_sub_right hg.1 c0) hr1) (Nat.le_trans (Nat.sub_le_sub_right hg.2 s0) hr2)
    · cases run
      obtain ⟨mi', ins, len, h1, h2, h3⟩ := ab_nextE q
      cases hmi.symm.trans h1
      obtain ⟨e1, h4⟩ := ab_retE (v := r.1) (h' := r.2) h3
      intro H locs ls hd hl
      have hres := hret H locs ls pc (S.map (tr (abAd B0 b t))) (by rw [e1]; exact hd) (by
        rcases h4 with ⟨k1, rfl, rfl, rfl, k2⟩ | ⟨v, k1, rfl, rfl, rfl, k2⟩
        · exact Or.inl ⟨k1, rfl, h2, k2⟩
        · exact Or.inr ⟨v, k1, rfl, h2, k2⟩)
      rw [e1] at hres
      exact hres
    · cases d with
      | zero => cases run
      | succ d' =>
        simp only at run
        split at run <;> rename_i q2
        · cases run
        · rename_i v h1
          obtain ⟨mi', ins, len, k1, k2, k3⟩ := ab_nextE q
          cases hmi.symm.trans k1
          have hg := ab_grow _ _ _ _ _ _ _ _ run
          have hg2 := ab_grow _ _ _ _ _ _ _ _ q2
          have hc2 := Nat.le_trans hc0 hg2.1
          have hs2 := Nat.le_trans hs0 hg2.2
          refine sd_call (v := v) (h1 := h1) F k2 k3 ?_ (fun mj hmj => (ab_kind _ _ _ _ _ _ _ _ q2 mj hmj).1) (fun mj hmj => (ab_kind _ _ _ _ _ _ _ _ q2 mj hmj).2) (ih _ _ _ _ _ _ _ run mi hmi p e R s m args below meth c Q c0 s0 F hc2 hs2 hr1 hr2 hret) hc0 hs0 hg2.1 hg2.2 (Nat.le_trans (Nat.sub_le_sub_right hg.1 c0) hr1) (Nat.le_trans (Nat.sub_le_sub_right hg.2 s0) hr2)
          intro mj hmj hok hlen
          unfold abMet
          obtain ⟨g1, g2, g3, g4⟩ := okMw hok
          refine Met.ofW (cc := mj.by) (maxL := mj.mL) (ret := mj.rt) g4 rfl ?_
          intro p2 e2 s2 m2 args2 below2 meth2 c2 s₁ B hml hv
          obtain ⟨rfl, hpre⟩ := hv
          obtain ⟨b1, b2, b3, b4, b5, b6, b7⟩ := hpre
          have hts := atoms_spec (ws := abWs mj) B.pre
          have hfix : abFix p2 (headSpec (abWs mj) (abRm d' (h1.1.length - h.1.length) (absz h1.1 - absz h.1))).room s2 m2 _ meth2 c2 mj d' D cy := ⟨B.exec, B.bytes, B.returns, hml, findClass_of_methodNamed B.named, fun w hw => hts w (List.mem_cons_of_mem _ hw), B.notSynchronized, (fun hq => (name_of_methodNamed B.named B.method).1.trans hq), b2, Nat.le_refl _, Nat.le_refl _, b5, b6, hok.1⟩
          have hbody := ih d' _ 0 _ [] h (v, h1) q2 mj hmj p2 e2 (headSpec (abWs mj) (abRm d' (h1.1.length - h.1.length) (absz h1.1 - absz h.1))).room s2 m2 _ below2 meth2 c2 (MQ below2 (abQ D cy B0 b t Ln xs v h1) _ s2 (h1.1.length - h.1.length) (absz h1.1 - absz h.1) (fun q : Nat => B0 ≤ q)) h.1.length (absz h.1) ⟨hfix, b4, b3⟩ (Nat.le_refl _) (Nat.le_refl _) (Nat.le_refl _) (Nat.le_refl _) (by
            intro H locs ls pc2 st hd hres
            obtain ⟨d1, d2, d3, d4⟩ := hd
            rcases hres with ⟨rv, rfl, hdec, hrt⟩ | ⟨r0, rv, rfl, hdec, hrt⟩
            · have rv : v = none := rv
              subst rv
              exact W.vret B.exec B.bytes (by rw [B.returns]; exact hrt) (fun T hT hW => ⟨⟨(), rfl, trivial, by rw [hT]; exact d1, by rw [hT]; exact d3, d4⟩, d2.F hT⟩) d2.2.2 hdec B.notSynchronized
            · have rv : v = some (.int r0) := rv
              subst rv
              rcases hrt with hrt | ⟨hrt, h01⟩
              · exact W.iret B.exec B.bytes (by rw [B.returns]; exact hrt) (fun T hT hW => ⟨⟨r0, (), rfl, rfl, by rw [hT]; exact d1, by rw [hT]; exact d3, d4⟩, d2.F hT⟩) d2.2.2 hdec B.notSynchronized
              · exact W.zret (ty := .boolean) B.exec B.bytes (by rw [B.returns]; exact hrt) (ab_nb h01).2.1 (fun T hT hW => ⟨⟨r0, (), rfl, rfl, by rw [hT]; exact d1, by rw [hT]; exact d3, d4⟩, d2.F hT⟩) d2.2.2 hdec B.notSynchronized)
          have hW := hbody s2.heap [] _ ⟨b1, va_S.rf, b3, b7⟩ (by
            rw [ab_start_eq hmj]
            exact ab_entry_ok hlen)
          rw [Nat.sub_self, Nat.sub_self] at hW
          rw [lg_entry_eq]
          exact hW
end SNR
