/-! SOUNDNESS, ONE INSTRUCTION: all together -/
section SNA
variable {p : Program} {l : Launch} {e : Env} {R : Room} {s : State} {m : MethodId} {args : Array Value} {below : List Frame} {meth : Method} {c : Code} {Q : State → Prop} {mi : abMI} {D : va_G} {cy : Nat → ClassId} {B0 b t Ln : Nat} {xs : Nat → Int32} {c0 s0 : Nat} {d pc pc' len : Nat} {L S L' S' : List Value} {h h' : abH}
theorem okC_at {key y kd i1 i2 i3 : Nat} (hf : abCT.lookup key = some (y, kd, i1, i2, i3)) {own : String} (ho : abCN[key / 4096]? = some own) : ∃ mj : abMI, abMT[y]? = some mj ∧ okMp mj ∧
    (kd = 0 → Cond.methodLink own (key % 4096) mj.nm ∈ abW0 ∧ Cond.instanceMethod mj.nm ∈ abW0 ∧ Cond.selects mj.nm.cls mj.nm mj.nm ∈ abW0) ∧
    (kd = 1 → Cond.methodLinkNest own (key % 4096) mj.nm "BufferRoom" ∈ abNw ∧ Cond.instanceMethod mj.nm ∈ abW0 ∧ Cond.selects mj.nm.cls mj.nm mj.nm ∈ abW0) ∧
    (kd = 2 → Cond.methodLink own (key % 4096) mj.nm ∈ abW0 ∧ Cond.static mj.nm ∈ abW0) ∧
    (kd = 3 → Cond.methodLinkNest own (key % 4096) mj.nm "BufferRoom" ∈ abNw ∧ Cond.static mj.nm ∈ abW0) ∧
    (kd = 4 → Cond.methodLink own (key % 4096) mj.nm ∈ abW0 ∧ Cond.instanceMethod mj.nm ∈ abW0 ∧ mj.nm.name = "<init>" ∧ mj.rt = none) ∧
    (kd = 5 → Cond.methodLinkNest own (key % 4096) mj.nm "BufferRoom" ∈ abNw ∧ Cond.instanceMethod mj.nm ∈ abW0 ∧ mj.nm.name = "<init>" ∧ mj.rt = none) ∧
    (kd = 6 → Cond.methodLink own (key % 4096) Lib.objectInit ∈ abW0 ∧ Cond.instanceMethod Lib.objectInit ∈ abW0 ∧ Cond.code Lib.objectInit ⟨#[0xb1]⟩ 1 none ∈ abW0) ∧
    (kd = 7 → Cond.methodLink own (key % 4096) arraycopyName ∈ abW0 ∧ Cond.native arraycopyName ∈ abW0 ∧ Cond.static arraycopyName ∈ abW0) ∧
    (kd = 8 → Cond.methodLink own (key % 4096) Lib.Math.max.name ∈ abW0 ∧ Cond.static Lib.Math.max.name ∈ abW0 ∧ Cond.code Lib.Math.max.name Lib.Math.max.code 2 (some .int) ∈ abW0) ∧
    (kd = 9 → Cond.methodLink own (key % 4096) Lib.Math.min.name ∈ abW0 ∧ Cond.static Lib.Math.min.name ∈ abW0 ∧ Cond.code Lib.Math.min.name Lib.Math.min.code 2 (some .int) ∈ abW0) := by
  obtain ⟨own', mj, e1, e2, e3, e4⟩ := abAll_mem okC_all _ (ab_look hf)
  have eo : own' = own := Option.some.inj (e1.symm.trans ho)
  subst eo
  have e2 : abMT[y]? = some mj := e2
  have e3 : y < 220 := e3
  have hmem : mj ∈ abMT.take 220 := List.mem_of_getElem? (i := y) (by rw [List.getElem?_take, if_pos e3]; exact e2)
  refine ⟨mj, e2, abAll_mem okM_all _ hmem, ?_⟩
  match kd, e4 with
  | 0, e4 => exact ⟨fun _ => ⟨abW0_in e4.1 rfl, abW0_in e4.2.1 rfl, abW0_in e4.2.2 rfl⟩, (fun q => by cases q), (fun q => by cases q), (fun q => by cases q), (fun q => by cases q), (fun q => by cases q), (fun q => by cases q), (fun q => by cases q), (fun q => by cases q), (fun q => by cases q)⟩
  | 1, e4 => exact ⟨(fun q => by cases q), fun _ => ⟨abNw_in e4.1 rfl, abW0_in e4.2.1 rfl, abW0_in e4.2.2 rfl⟩, (fun q => by cases q), (fun q => by cases q), (fun q => by cases q), (fun q => by cases q), (fun q => by cases q), (fun q => by cases q), (fun q => by cases q), (fun q => by cases q)⟩
  | 2, e4 => exact ⟨(fun q => by cases q), (fun q => by cases q), fun _ => ⟨abW0_in e4.1 rfl, abW0_in e4.2 rfl⟩, (fun q => by cases q), (fun q => by cases q), (fun q => by cases q), (fun q => by cases q), (fun q => by cases q), (fun q => by cases q), (fun q => by cases q)⟩
  | 3, e4 => exact ⟨(fun q => by cases q), (fun q => by cases q), (fun q => by cases q), fun _ => ⟨abNw_in e4.1 rfl, abW0_in e4.2 rfl⟩, (fun q => by cases q), (fun q => by cases q), (fun q => by cases q), (fun q => by cases q), (fun q => by cases q), (fun q => by cases q)⟩
  | 4, e4 => exact ⟨(fun q => by cases q), (fun q => by cases q), (fun q => by cases q), (fun q => by cases q), fun _ => ⟨abW0_in e4.1 rfl, abW0_in e4.2.1 rfl, e4.2.2⟩, (fun q => by cases q), (fun q => by cases q), (fun q => by cases q), (fun q => by cases q), (fun q => by cases q)⟩
  | 5, e4 => exact ⟨(fun q => by cases q), (fun q => by cases q), (fun q => by cases q), (fun q => by cases q), (fun q => by cases q), fun _ => ⟨abNw_in e4.1 rfl, abW0_in e4.2.1 rfl, e4.2.2⟩, (fun q => by cases q), (fun q => by cases q), (fun q => by cases q), (fun q => by cases q)⟩
  | 6, e4 => exact ⟨(fun q => by cases q), (fun q => by cases q), (fun q => by cases q), (fun q => by cases q), (fun q => by cases q), (fun q => by cases q), fun _ => ⟨abW0_in e4.1 rfl, abW0_in e4.2.1 rfl, abW0_in e4.2.2 rfl⟩, (fun q => by cases q), (fun q => by cases q), (fun q => by cases q)⟩
  | 7, e4 => exact ⟨(fun q => by cases q), (fun q => by cases q), (fun q => by cases q), (fun q => by cases q), (fun q => by cases q), (fun q => by cases q), (fun q => by cases q), fun _ => ⟨abW0_in e4.1 rfl, abW0_in e4.2.1 rfl, abW0_in e4.2.2 rfl⟩, (fun q => by cases q), (fun q => by cases q)⟩
  | 8, e4 => exact ⟨(fun q => by cases q), (fun q => by cases q), (fun q => by cases q), (fun q => by cases q), (fun q => by cases q), (fun q => by cases q), (fun q => by cases q), (fun q => by cases q), fun _ => ⟨abW0_in e4.1 rfl, abW0_in e4.2.1 rfl, abW0_in e4.2.2 rfl⟩, (fun q => by cases q)⟩
  | 9, e4 => exact ⟨(fun q => by cases q), (fun q => by cases q), (fun q => by cases q), (fun q => by cases q), (fun q => by cases q), (fun q => by cases q), (fun q => by cases q), (fun q => by cases q), (fun q => by cases q), fun _ => ⟨abW0_in e4.1 rfl, abW0_in e4.2.1 rfl, abW0_in e4.2.2 rfl⟩⟩
  | n + 10, e4 => exact e4.elim
theorem okMath : Cond.initialized "java/lang/Math" ∈ abW0 := abGd_in (i := 96) (by decide +kernel)
theorem sd_inv {ix op : Nat} (hix : ix < 4096) (F : abG p l e R s m args below meth c Q mi D cy B0 b t Ln xs c0 s0 d) (hop : (op = 1 → decode mi.by pc = .ok (.invokestatic ix, 3)) ∧ (op = 2 → decode mi.by pc = .ok (.invokespecial ix, 3))) (hn : ab_inv d op mi ix pc L S h = some (.inl (pc', L', S', h'))) (K : abW p l e R s m args below meth c Q mi D cy B0 b t Ln xs c0 s0 pc' L' S' h') (hc0 : c0 ≤ h.1.length) (hs0 : s0 ≤ absz h.1) (hr1 : h'.1.length - c0 ≤ R.cells) (hr2 : absz h'.1 - s0 ≤ R.slots) : abW p l e R s m args below meth c Q mi D cy B0 b t Ln xs c0 s0 pc L S h := by
  obtain ⟨⟨hx, hb, -, hml, hown, hts, -, -, hK, hR1, hR2, -, -, hcn⟩, -, hsz⟩ := id F
  unfold ab_inv at hn
  split at hn
  · rename_i y kd i1 i2 i3 hf
    obtain ⟨mj, hmj, -, -, -, -, -, -, -, w6, w7, w8, w9⟩ := okC_at hf (own := mi.nm.cls) (by rw [(ab_key hix).1]; exact hcn)
    rw [(ab_key hix).2] at w6 w7 w8 w9
    split at hn
    · rename_i h6
      obtain ⟨v1, v2, v3⟩ := w6 h6
      split at hn
      · rename_i o S0
        split at hn
        · rename_i hc
          obtain ⟨rfl, rfl, rfl, rfl⟩ := ab_goE hn
          obtain ⟨rfl, h4, hd0⟩ := hc
          intro H locs ls hd hl
          have hcat := ab_cat S0 (abAd B0 b t) h4
          refine W.objInit (a := abAd B0 b t o) hx hb hown (hts _ v1) (hts _ v2) (hts _ v3) rfl ((hl.2.1).trans hml.symm) rfl (hop.2 rfl) (by omega) (by show 2 * 0 + _ + 12 ≤ _; omega) ?_
          exact K H locs ls hd hl
        · cases hn
      · cases hn
    · split at hn
      · rename_i h7
        split at hn
        · rename_i hop1
          obtain ⟨v1, v2, v3⟩ := w7 h7
          exact sd_acpy v1 v2 v3 F (hop.1 hop1) hn K hc0
        · cases hn
      · split at hn
        · rename_i h8
          obtain ⟨v1, v2, v3⟩ := w8 h8
          split at hn
          · rename_i v u S0
            split at hn
            · rename_i hc
              obtain ⟨rfl, rfl, rfl, rfl⟩ := ab_goE hn
              obtain ⟨rfl, h4, hd0⟩ := hc
              intro H locs ls hd hl
              have hcat := ab_cat S0 (abAd B0 b t) h4
              exact va_mmax hx hb (hml.trans hl.2.1.symm) hown (hts _ v1) (hts _ v2) (hts _ okMath) (hts _ v3) (by omega) (by omega) hr1 hr2 (hop.1 rfl) (K H locs ls hd hl)
            · cases hn
          · cases hn
        · split at hn
          · rename_i h9
            obtain ⟨v1, v2, v3⟩ := w9 h9
            split at hn
            · rename_i v u S0
              split at hn
              · rename_i hc
                obtain ⟨rfl, rfl, rfl, rfl⟩ := ab_goE hn
                obtain ⟨rfl, h4, hd0⟩ := hc
                intro H locs ls hd hl
                have hcat := ab_cat S0 (abAd B0 b t) h4
                exact va_mmin hx hb (hml.trans hl.2.1.symm) hown (hts _ v1) (hts _ v2) (hts _ okMath) (hts _ v3) (by omega) (by omega) hr1 hr2 (hop.1 rfl) (K H locs ls hd hl)
              · cases hn
            · cases hn
          · split at hn
            · split at hn
              · split at hn <;> cases hn
              · split at hn
                · split at hn
                  · split at hn <;> cases hn
                  · cases hn
                · cases hn
            · cases hn
  · cases hn
set_option maxHeartbeats 4000000 in
theorem sd_ins {ins : Instr} (F : abG p l e R s m args below meth c Q mi D cy B0 b t Ln xs c0 s0 d) (hdg : decode mi.by pc = .ok (ins, len)) (hn : ab_ins d mi pc len L S h ins = some (.inl (pc', L', S', h'))) (K : abW p l e R s m args below meth c Q mi D cy B0 b t Ln xs c0 s0 pc' L' S' h') (hc0 : c0 ≤ h.1.length) (hs0 : s0 ≤ absz h.1) (hr1 : h'.1.length - c0 ≤ R.cells) (hr2 : absz h'.1 - s0 ≤ R.slots) : abW p l e R s m args below meth c Q mi D cy B0 b t Ln xs c0 s0 pc L S h := by
  obtain ⟨⟨hx, hb, -, hml, hown, hts, -, -, hK, hR1, hR2, -, -, hcn⟩, ⟨sz1, sz2, sz3, sz4, sz5⟩, hsz⟩ := id F
  have ild : ∀ (k : Nat) (n : Nat), (∀ (u : Int32) (H : Heap) (locs : List Loc) (cl sl : Nat) (ls : Array Slot) (rest : List Value), ls[k]? = some (.val (.int u)) → W p l e R s m args below meth c H locs cl sl Q (F0 m (pc + n) ls (.int u :: rest)) → W p l e R s m args below meth c H locs cl sl Q (F0 m pc ls rest)) → ab_ildK k n pc L S h = some (.inl (pc', L', S', h')) → abW p l e R s m args below meth c Q mi D cy B0 b t Ln xs c0 s0 pc L S h := by
    intro k n row hn
    unfold ab_ildK at hn
    split at hn
    · rename_i u hk
      obtain ⟨rfl, rfl, rfl, rfl⟩ := ab_goE hn
      intro H locs ls hd hl
      exact row _ _ _ _ _ _ _ (hl.i hk) (K H locs ls hd hl)
    · cases hn
  have ald : ∀ (k : Nat) (n : Nat), (∀ (u : Nat) (H : Heap) (locs : List Loc) (cl sl : Nat) (ls : Array Slot) (rest : List Value), ls[k]? = some (.val (.ref u)) → W p l e R s m args below meth c H locs cl sl Q (F0 m (pc + n) ls (.ref u :: rest)) → W p l e R s m args below meth c H locs cl sl Q (F0 m pc ls rest)) → ab_aldK k n pc L S h = some (.inl (pc', L', S', h')) → abW p l e R s m args below meth c Q mi D cy B0 b t Ln xs c0 s0 pc L S h := by
    intro k n row hn
    unfold ab_aldK at hn
    split at hn
    · rename_i u hk
      obtain ⟨rfl, rfl, rfl, rfl⟩ := ab_goE hn
      intro H locs ls hd hl
      exact row _ _ _ _ _ _ _ (hl.a hk) (K H locs ls hd hl)
    · cases hn
  have ist : ∀ (k : Nat) (n : Nat), (∀ (u : Int32) (H : Heap) (locs : List Loc) (cl sl : Nat) (ls : Array Slot) (rest : List Value) (lv : List (Nat × Value)), lv_has ls mi.mL lv → k < mi.mL → (∀ ls' : Array Slot, lv_has ls' mi.mL ((k, Value.int u) :: lv.filter (fun q => !(q.1 == k) && !(q.1 + 1 == k && q.2.category == 2))) → W p l e R s m args below meth c H locs cl sl Q (F0 m (pc + n) ls' rest)) → W p l e R s m args below meth c H locs cl sl Q (F0 m pc ls (.int u :: rest))) → ab_istK k n pc L S h = some (.inl (pc', L', S', h')) → abW p l e R s m args below meth c Q mi D cy B0 b t Ln xs c0 s0 pc L S h := by
    intro k n row hn
    unfold ab_istK at hn
    split at hn
    · rename_i u S0
      split at hn
      · rename_i hk
        obtain ⟨rfl, rfl, rfl, rfl⟩ := ab_goE hn
        intro H locs ls hd hl
        exact row _ _ _ _ _ _ _ _ (abLs_has hl) (by rw [← hl.1]; exact hk) (fun ls' hls => K H locs ls' hd (hl.st hk rfl (fun z q => by cases q) hls))
      · cases hn
    · cases hn
  have ast : ∀ (k : Nat) (n : Nat), (∀ (u : Nat) (H : Heap) (locs : List Loc) (cl sl : Nat) (ls : Array Slot) (rest : List Value) (lv : List (Nat × Value)), lv_has ls mi.mL lv → k < mi.mL → (∀ ls' : Array Slot, lv_has ls' mi.mL ((k, Value.ref u) :: lv.filter (fun q => !(q.1 == k) && !(q.1 + 1 == k && q.2.category == 2))) → W p l e R s m args below meth c H locs cl sl Q (F0 m (pc + n) ls' rest)) → W p l e R s m args below meth c H locs cl sl Q (F0 m pc ls (.ref u :: rest))) → ab_astK k n pc L S h = some (.inl (pc', L', S', h')) → abW p l e R s m args below meth c Q mi D cy B0 b t Ln xs c0 s0 pc L S h := by
    intro k n row hn
    unfold ab_astK at hn
    split at hn
    · rename_i u S0
      split at hn
      · rename_i hk
        obtain ⟨rfl, rfl, rfl, rfl⟩ := ab_goE hn
        intro H locs ls hd hl
        exact row _ _ _ _ _ _ _ _ (abLs_has hl) (by rw [← hl.1]; exact hk) (fun ls' hls => K H locs ls' hd (hl.st hk rfl (fun z q => by cases q) hls))
      · cases hn
    · cases hn
  cases ins with
  | iconst n =>
    simp only [ab_ins] at hn
    split at hn
    · rename_i hlen
      subst hlen
      obtain ⟨rfl, rfl, rfl, rfl⟩ := ab_goE hn
      exact fun H locs ls hd hl => lv_iconst hx hb hdg rfl (K H locs ls hd hl)
    · cases hn
  | bipush n =>
    simp only [ab_ins] at hn
    split at hn
    · rename_i hlen
      subst hlen
      obtain ⟨rfl, rfl, rfl, rfl⟩ := ab_goE hn
      exact fun H locs ls hd hl => lv_bipush hx hb hdg rfl (K H locs ls hd hl)
    · cases hn
  | sipush n =>
    simp only [ab_ins] at hn
    split at hn
    · rename_i hlen
      subst hlen
      obtain ⟨rfl, rfl, rfl, rfl⟩ := ab_goE hn
      exact fun H locs ls hd hl => lv_sipush hx hb hdg rfl (K H locs ls hd hl)
    · cases hn
  | ldc ix =>
    simp only [ab_ins] at hn
    split at hn
    · rename_i hlen
      obtain ⟨rfl, hix⟩ := hlen
      split at hn
      · rename_i v w hf
        obtain ⟨rfl, rfl, rfl, rfl⟩ := ab_goE hn
        have h1 := List.all_eq_true.mp okKT_all _ (ab_look hf)
        unfold okKT at h1
        rw [(ab_key hix).1, hcn, (ab_key hix).2] at h1
        exact fun H locs ls hd hl => lv_ldc hx hb hown (hts _ (abGd_in h1)) hdg (K H locs ls hd hl)
      · cases hn
    · cases hn
  | ldc_w ix =>
    simp only [ab_ins] at hn
    split at hn
    · rename_i hlen
      obtain ⟨rfl, hix⟩ := hlen
      split at hn
      · rename_i v w hf
        obtain ⟨rfl, rfl, rfl, rfl⟩ := ab_goE hn
        have h1 := List.all_eq_true.mp okKT_all _ (ab_look hf)
        unfold okKT at h1
        rw [(ab_key hix).1, hcn, (ab_key hix).2] at h1
        exact fun H locs ls hd hl => lv_ldcw hx hb hown (hts _ (abGd_in h1)) hdg (K H locs ls hd hl)
      · cases hn
    · cases hn
  | ldc2_w ix =>
    simp only [ab_ins] at hn
    split at hn
    · rename_i hlen
      obtain ⟨rfl, hix⟩ := hlen
      split at hn
      · rename_i v w hf
        obtain ⟨rfl, rfl, rfl, rfl⟩ := ab_goE hn
        have h1 := List.all_eq_true.mp okLT_all _ (ab_look hf)
        unfold okLT at h1
        rw [(ab_key hix).1, hcn, (ab_key hix).2] at h1
        exact fun H locs ls hd hl => lv_ldc2 hx hb hown (hts _ (abGd_in h1)) hdg (K H locs ls hd hl)
      · cases hn
    · cases hn
  | iload_n k =>
    simp only [ab_ins] at hn
    split at hn
    · rename_i hlen
      subst hlen
      exact ild k 1 (fun u H locs cl sl ls rest q kk => lv_iload_n hx hb hdg rfl q kk) hn
    · cases hn
  | iload k =>
    simp only [ab_ins] at hn
    split at hn
    · rename_i hlen
      subst hlen
      exact ild k 2 (fun u H locs cl sl ls rest q kk => lv_iload hx hb hdg q kk) hn
    · cases hn
  | aload_n k =>
    simp only [ab_ins] at hn
    split at hn
    · rename_i hlen
      subst hlen
      exact ald k 1 (fun u H locs cl sl ls rest q kk => lv_aload_n hx hb hdg rfl q kk) hn
    · cases hn
  | aload k =>
    simp only [ab_ins] at hn
    split at hn
    · rename_i hlen
      subst hlen
      exact ald k 2 (fun u H locs cl sl ls rest q kk => lv_aload hx hb hdg q kk) hn
    · cases hn
  | lload_n k =>
    simp only [ab_ins] at hn
    split at hn
    · rename_i hlen
      subst hlen
      split at hn
      · rename_i u hk
        split at hn
        · rename_i hk1
          obtain ⟨rfl, rfl, rfl, rfl⟩ := ab_goE hn
          exact fun H locs ls hd hl => lv_lload_n hx hb hdg rfl (hl.lg hk hk1) (K H locs ls hd hl)
        · cases hn
      · cases hn
    · cases hn
  | istore_n k =>
    simp only [ab_ins] at hn
    split at hn
    · rename_i hlen
      subst hlen
      exact ist k 1 (fun u H locs cl sl ls rest lv q1 q2 kk => lv_istore_n hx hb hdg rfl q1 q2 rfl kk) hn
    · cases hn
  | istore k =>
    simp only [ab_ins] at hn
    split at hn
    · rename_i hlen
      subst hlen
      exact ist k 2 (fun u H locs cl sl ls rest lv q1 q2 kk => lv_istore hx hb hdg q1 q2 rfl kk) hn
    · cases hn
  | astore_n k =>
    simp only [ab_ins] at hn
    split at hn
    · rename_i hlen
      subst hlen
      exact ast k 1 (fun u H locs cl sl ls rest lv q1 q2 kk => lv_astore_n hx hb hdg rfl q1 q2 rfl kk) hn
    · cases hn
  | astore k =>
    simp only [ab_ins] at hn
    split at hn
    · rename_i hlen
      subst hlen
      exact ast k 2 (fun u H locs cl sl ls rest lv q1 q2 kk => lv_astore hx hb hdg q1 q2 rfl kk) hn
    · cases hn
  | iinc k n =>
    simp only [ab_ins] at hn
    split at hn
    · rename_i hlen
      subst hlen
      split at hn
      · rename_i u hk
        obtain ⟨rfl, rfl, rfl, rfl⟩ := ab_goE hn
        intro H locs ls hd hl
        have hk2 := (List.getElem?_eq_some_iff.mp hk).1
        obtain ⟨j, hj⟩ := List.getElem?_of_mem (abLs_mem (ad := abAd B0 b t) hk rfl)
        exact lv_iinc (k := j) hx hb hdg (abLs_has hl) hj rfl (by rw [← hl.1]; exact hk2) rfl (fun ls' hls => K H locs ls' hd (hl.st hk2 rfl (fun z q => by cases q) hls))
      · cases hn
    · cases hn
  | pop =>
    simp only [ab_ins] at hn
    split at hn
    · rename_i hlen
      subst hlen
      split at hn
      · obtain ⟨rfl, rfl, rfl, rfl⟩ := ab_goE hn
        exact fun H locs ls hd hl => lv_pop hx hb hdg rfl (K H locs ls hd hl)
      · cases hn
    · cases hn
  | dup =>
    simp only [ab_ins] at hn
    split at hn
    · rename_i hlen
      subst hlen
      split at hn
      · obtain ⟨rfl, rfl, rfl, rfl⟩ := ab_goE hn
        exact fun H locs ls hd hl => lv_dup hx hb hdg rfl (K H locs ls hd hl)
      · obtain ⟨rfl, rfl, rfl, rfl⟩ := ab_goE hn
        exact fun H locs ls hd hl => lv_dup hx hb hdg rfl (K H locs ls hd hl)
      · cases hn
    · cases hn
  | dup2 =>
    simp only [ab_ins] at hn
    split at hn
    · rename_i hlen
      subst hlen
      split at hn
      · obtain ⟨rfl, rfl, rfl, rfl⟩ := ab_goE hn
        exact fun H locs ls hd hl => lv_dup2_11 hx hb hdg rfl rfl (K H locs ls hd hl)
      · cases hn
    · cases hn
  | iadd =>
    simp only [ab_ins] at hn
    split at hn
    · rename_i hlen
      subst hlen
      exact sd_i2 (fun u v H locs cl sl ls rest kk => lv_iadd hx hb hdg kk) hn K
    · cases hn
  | isub =>
    simp only [ab_ins] at hn
    split at hn
    · rename_i hlen
      subst hlen
      exact sd_i2 (fun u v H locs cl sl ls rest kk => lv_isub hx hb hdg kk) hn K
    · cases hn
  | imul =>
    simp only [ab_ins] at hn
    split at hn
    · rename_i hlen
      subst hlen
      exact sd_i2 (fun u v H locs cl sl ls rest kk => lv_imul hx hb hdg kk) hn K
    · cases hn
  | iand =>
    simp only [ab_ins] at hn
    split at hn
    · rename_i hlen
      subst hlen
      exact sd_i2 (fun u v H locs cl sl ls rest kk => lv_iand hx hb hdg kk) hn K
    · cases hn
  | ior =>
    simp only [ab_ins] at hn
    split at hn
    · rename_i hlen
      subst hlen
      exact sd_i2 (fun u v H locs cl sl ls rest kk => lv_ior hx hb hdg kk) hn K
    · cases hn
  | ixor =>
    simp only [ab_ins] at hn
    split at hn
    · rename_i hlen
      subst hlen
      exact sd_i2 (fun u v H locs cl sl ls rest kk => lv_ixor hx hb hdg kk) hn K
    · cases hn
  | ishl =>
    simp only [ab_ins] at hn
    split at hn
    · rename_i hlen
      subst hlen
      exact sd_i2 (fun u v H locs cl sl ls rest kk => lv_ishl hx hb hdg kk) hn K
    · cases hn
  | ishr =>
    simp only [ab_ins] at hn
    split at hn
    · rename_i hlen
      subst hlen
      exact sd_i2 (fun u v H locs cl sl ls rest kk => lv_ishr hx hb hdg kk) hn K
    · cases hn
  | iushr =>
    simp only [ab_ins] at hn
    split at hn
    · rename_i hlen
      subst hlen
      exact sd_i2 (fun u v H locs cl sl ls rest kk => lv_iushr hx hb hdg rfl kk) hn K
    · cases hn
  | idiv =>
    simp only [ab_ins] at hn
    split at hn
    · rename_i hlen
      subst hlen
      split at hn
      · split at hn
        · cases hn
        · rename_i h0
          obtain ⟨rfl, rfl, rfl, rfl⟩ := ab_goE hn
          exact fun H locs ls hd hl => lv_idiv hx hb hdg h0 (K H locs ls hd hl)
      · cases hn
    · cases hn
  | i2l =>
    simp only [ab_ins] at hn
    split at hn
    · rename_i hlen
      subst hlen
      split at hn
      · obtain ⟨rfl, rfl, rfl, rfl⟩ := ab_goE hn
        exact fun H locs ls hd hl => lv_i2l hx hb hdg rfl (K H locs ls hd hl)
      · cases hn
    · cases hn
  | l2i =>
    simp only [ab_ins] at hn
    split at hn
    · rename_i hlen
      subst hlen
      split at hn
      · obtain ⟨rfl, rfl, rfl, rfl⟩ := ab_goE hn
        exact fun H locs ls hd hl => lv_l2i hx hb hdg rfl (K H locs ls hd hl)
      · cases hn
    · cases hn
  | i2b =>
    simp only [ab_ins] at hn
    split at hn
    · rename_i hlen
      subst hlen
      split at hn
      · obtain ⟨rfl, rfl, rfl, rfl⟩ := ab_goE hn
        exact fun H locs ls hd hl => lv_i2b hx hb hdg rfl (K H locs ls hd hl)
      · cases hn
    · cases hn
  | i2s =>
    simp only [ab_ins] at hn
    split at hn
    · rename_i hlen
      subst hlen
      split at hn
      · obtain ⟨rfl, rfl, rfl, rfl⟩ := ab_goE hn
        exact fun H locs ls hd hl => lv_i2s hx hb hdg rfl (K H locs ls hd hl)
      · cases hn
    · cases hn
  | land =>
    simp only [ab_ins] at hn
    split at hn
    · rename_i hlen
      subst hlen
      split at hn
      · obtain ⟨rfl, rfl, rfl, rfl⟩ := ab_goE hn
        exact fun H locs ls hd hl => lv_land hx hb hdg (K H locs ls hd hl)
      · cases hn
    · cases hn
  | lor =>
    simp only [ab_ins] at hn
    split at hn
    · rename_i hlen
      subst hlen
      split at hn
      · obtain ⟨rfl, rfl, rfl, rfl⟩ := ab_goE hn
        exact fun H locs ls hd hl => lv_lor hx hb hdg (K H locs ls hd hl)
      · cases hn
    · cases hn
  | lshl =>
    simp only [ab_ins] at hn
    split at hn
    · rename_i hlen
      subst hlen
      split at hn
      · obtain ⟨rfl, rfl, rfl, rfl⟩ := ab_goE hn
        exact fun H locs ls hd hl => lv_lshl hx hb hdg rfl (K H locs ls hd hl)
      · cases hn
    · cases hn
  | lshr =>
    simp only [ab_ins] at hn
    split at hn
    · rename_i hlen
      subst hlen
      split at hn
      · obtain ⟨rfl, rfl, rfl, rfl⟩ := ab_goE hn
        exact fun H locs ls hd hl => lv_lshr hx hb hdg rfl (K H locs ls hd hl)
      · cases hn
    · cases hn
  | lushr =>
    simp only [ab_ins] at hn
    split at hn
    · rename_i hlen
      subst hlen
      split at hn
      · obtain ⟨rfl, rfl, rfl, rfl⟩ := ab_goE hn
        exact fun H locs ls hd hl => lv_lushr hx hb hdg rfl (K H locs ls hd hl)
      · cases hn
    · cases hn
  | ifCond cd off =>
    simp only [ab_ins] at hn
    split at hn
    · rename_i hlen
      subst hlen
      split at hn
      · exact sd_if hx hb hdg hn K
      · cases hn
    · cases hn
  | if_icmp cd off =>
    simp only [ab_ins] at hn
    split at hn
    · rename_i hlen
      subst hlen
      split at hn
      · exact sd_icmp hx hb hdg hn K
      · cases hn
    · cases hn
  | goto off =>
    simp only [ab_ins] at hn
    split at hn
    · rename_i hlen
      subst hlen
      obtain ⟨ht, rfl, rfl, rfl⟩ := ab_jpE hn
      exact fun H locs ls hd hl => lv_goto hx hb hdg ht (K H locs ls hd hl)
    · cases hn
  | tableswitch df lo hi offs =>
    simp only [ab_ins] at hn
    split at hn
    · split at hn
      · rename_i hout
        obtain ⟨ht, rfl, rfl, rfl⟩ := ab_jpE hn
        exact fun H locs ls hd hl => lv_tableOut hx hb hdg hout ht (K H locs ls hd hl)
      · rename_i hout
        split at hn
        · rename_i off ho
          obtain ⟨ht, rfl, rfl, rfl⟩ := ab_jpE hn
          exact fun H locs ls hd hl => lv_tableIn hx hb hdg (fun q => hout (Or.inl q)) (fun q => hout (Or.inr q)) ho ht (K H locs ls hd hl)
        · cases hn
    · cases hn
  | lookupswitch df ps =>
    simp only [ab_ins] at hn
    split at hn
    · split at hn
      · rename_i hp
        obtain ⟨ht, rfl, rfl, rfl⟩ := ab_jpE hn
        exact fun H locs ls hd hl => lv_lookup hx hb hdg hp rfl ht (K H locs ls hd hl)
      · cases hn
    · cases hn
  | getfield ix =>
    simp only [ab_ins] at hn
    split at hn
    · rename_i hlen
      obtain ⟨rfl, hix⟩ := hlen
      exact sd_get hix F hdg hn K
    · cases hn
  | putfield ix =>
    simp only [ab_ins] at hn
    split at hn
    · rename_i hlen
      obtain ⟨rfl, hix⟩ := hlen
      exact sd_put hix F hdg hn K hc0
    · cases hn
  | getstatic ix =>
    simp only [ab_ins] at hn
    split at hn
    · rename_i hlen
      obtain ⟨rfl, hix⟩ := hlen
      split at hn
      · rename_i w hf
        obtain ⟨rfl, rfl, rfl, rfl⟩ := ab_goE hn
        have h1 := List.all_eq_true.mp okST_all _ (ab_look hf)
        unfold okST at h1
        rw [(ab_key hix).1, hcn, (ab_key hix).2] at h1
        exact fun H locs ls hd hl => va_gets hx hb sz1 hd.2.1 hown (hts _ (abGd_in h1)) (fun _ q => q) hdg (K H locs ls hd hl)
      · cases hn
    · cases hn
  | new ix =>
    simp only [ab_ins] at hn
    split at hn
    · rename_i hlen
      obtain ⟨rfl, hix⟩ := hlen
      exact sd_new hix F hdg hn K hc0 hs0 hr1 hr2
    · cases hn
  | newarray at0 =>
    cases at0 with
    | int =>
      simp only [ab_ins] at hn
      split at hn
      · rename_i hlen
        subst hlen
        exact sd_newa (Or.inl ⟨rfl, rfl⟩) F hdg hn K hc0 hs0 hr1 hr2
      · cases hn
    | boolean =>
      simp only [ab_ins] at hn
      split at hn
      · rename_i hlen
        subst hlen
        exact sd_newa (Or.inr ⟨rfl, rfl⟩) F hdg hn K hc0 hs0 hr1 hr2
      · cases hn
    | _ => cases hn
  | anewarray ix =>
    simp only [ab_ins] at hn
    split at hn
    · rename_i hlen
      obtain ⟨rfl, hix⟩ := hlen
      exact sd_newq hix F hdg hn K hc0 hs0 hr1 hr2
    · cases hn
  | iaload =>
    simp only [ab_ins] at hn
    split at hn
    · rename_i hlen
      subst hlen
      exact sd_iald F hdg hn K
    · cases hn
  | baload =>
    simp only [ab_ins] at hn
    split at hn
    · rename_i hlen
      subst hlen
      exact sd_zald F hdg hn K
    · cases hn
  | aaload =>
    simp only [ab_ins] at hn
    split at hn
    · rename_i hlen
      subst hlen
      exact sd_aald F hdg hn K
    · cases hn
  | iastore =>
    simp only [ab_ins] at hn
    split at hn
    · rename_i hlen
      subst hlen
      exact sd_iast F hdg hn K hc0
    · cases hn
  | bastore =>
    simp only [ab_ins] at hn
    split at hn
    · rename_i hlen
      subst hlen
      exact sd_zast F hdg hn K hc0
    · cases hn
  | aastore =>
    simp only [ab_ins] at hn
    split at hn
    · rename_i hlen
      subst hlen
      exact sd_aast F hdg hn K hc0
    · cases hn
  | arraylength =>
    simp only [ab_ins] at hn
    split at hn
    · rename_i hlen
      subst hlen
      exact sd_alen F hdg hn K
    · cases hn
  | invokevirtual ix =>
    simp only [ab_ins] at hn
    split at hn
    · rename_i hlen
      obtain ⟨rfl, hix⟩ := hlen
      exact sd_inv hix F ⟨(fun q => by cases q), (fun q => by cases q)⟩ hn K hc0 hs0 hr1 hr2
    · cases hn
  | invokestatic ix =>
    simp only [ab_ins] at hn
    split at hn
    · rename_i hlen
      obtain ⟨rfl, hix⟩ := hlen
      exact sd_inv hix F ⟨fun _ => hdg, (fun q => by cases q)⟩ hn K hc0 hs0 hr1 hr2
    · cases hn
  | invokespecial ix =>
    simp only [ab_ins] at hn
    split at hn
    · rename_i hlen
      obtain ⟨rfl, hix⟩ := hlen
      exact sd_inv hix F ⟨(fun q => by cases q), fun _ => hdg⟩ hn K hc0 hs0 hr1 hr2
    · cases hn
  | ireturn =>
    simp only [ab_ins] at hn
    split at hn
    · split at hn
      · split at hn <;> cases hn
      · cases hn
    · cases hn
  | return_ =>
    simp only [ab_ins] at hn
    split at hn
    · split at hn
      · split at hn <;> cases hn
      · cases hn
    · cases hn
  | _ => cases hn
end SNA
