/-! SOUNDNESS OF RUNS: calls, and all together -/
theorem ab_nextE {d m pc : Nat} {L S : List Value} {h : abH} {r : abNx} (e : ab_next d m pc L S h = some r) : ∃ (mi : abMI) (ins : Instr) (len : Nat), abMT[m]? = some mi ∧ decode mi.by pc = .ok (ins, len) ∧ ab_ins d mi pc len L S h ins = some r := by
  unfold ab_next at e
  split at e
  · cases e
  · rename_i mi hm
    split at e
    · rename_i ins len hd
      exact ⟨mi, ins, len, hm, hd, e⟩
    · cases e
theorem ab_retE {d pc len : Nat} {mi : abMI} {L S : List Value} {h h' : abH} {v : Option Value} {ins : Instr} (e : ab_ins d mi pc len L S h ins = some (.inr (.inl (v, h')))) : h' = h ∧ ((v = none ∧ S = [] ∧ ins = .return_ ∧ len = 1 ∧ mi.rt = none) ∨ ∃ r : Int32, v = some (.int r) ∧ S = [.int r] ∧ ins = .ireturn ∧ len = 1 ∧ (mi.rt = some .int ∨ mi.rt = some .boolean ∧ (r = 0 ∨ r = 1))) := by
  cases ins
  case newarray at0 =>
    cases at0 <;> simp only [ab_ins, ab_newa, ab_go] at e <;> (repeat' (split at e)) <;> cases e
  case ireturn =>
    simp only [ab_ins] at e
    split at e
    · rename_i hl
      split at e
      · split at e
        · rename_i hc
          cases e
          exact ⟨rfl, Or.inr ⟨_, rfl, rfl, rfl, hl, hc⟩⟩
        · cases e
      · cases e
    · cases e
  case return_ =>
    simp only [ab_ins] at e
    split at e
    · rename_i hl
      split at e
      · split at e
        · rename_i hc
          cases e
          exact ⟨rfl, Or.inl ⟨rfl, rfl, rfl, hl, hc⟩⟩
        · cases e
      · cases e
    · cases e
  all_goals simp only [ab_ins] at e <;> first
    | cases e
    | skip
  all_goals (try simp only [ab_ildK, ab_aldK, ab_istK, ab_astK, ab_i2, ab_br, ab_jp, ab_get, ab_put, ab_new, ab_newa, ab_newq, ab_iald, ab_zald, ab_aald, ab_iast, ab_zast, ab_aast, ab_alen, ab_inv, ab_acpy, ab_go] at e)
  all_goals (repeat' (split at e))
  all_goals (cases e; done)
theorem ab_grow : ∀ (n d m pc : Nat) (L S : List Value) (h : abH) (r : Option Value × abH), ab_run n d m pc L S h = some r → h.1.length ≤ r.2.1.length ∧ absz h.1 ≤ absz r.2.1 := by
  intro n
  induction n with
  | zero => intro d m pc L S h r e; cases e
  | succ n ih =>
    intro d m pc L S h r e
    rw [ab_run] at e
    split at e <;> rename_i q
    · cases e
    · obtain ⟨mi, ins, len, h1, h2, h3⟩ := ab_nextE q
      have h4 := ih _ _ _ _ _ _ _ e
      rcases ab_grI h3 with h5 | ⟨t, k, h5⟩
      · rw [h5] at h4
        exact h4
      · rw [h5, absz_push, List.length_append, List.length_singleton] at h4
        omega
    · cases e
      obtain ⟨mi, ins, len, h1, h2, h3⟩ := ab_nextE q
      have hh : r.2 = h := (ab_retE (v := r.1) (h' := r.2) h3).1
      rw [hh]
      exact ⟨Nat.le_refl _, Nat.le_refl _⟩
    · cases d with
      | zero => cases e
      | succ d' =>
        simp only at e
        split at e <;> rename_i q2
        · cases e
        · have h4 := ih _ _ _ _ _ _ _ q2
          have h5 := ih _ _ _ _ _ _ _ e
          exact ⟨Nat.le_trans h4.1 h5.1, Nat.le_trans h4.2 h5.2⟩
/-- a call: which instruction, which method, how its arguments lie -/
theorem ab_callE {d pc pc' len y : Nat} {mi : abMI} {L S S' as : List Value} {h : abH} {ins : Instr} (e : ab_ins d mi pc len L S h ins = some (.inr (.inr (y, as, pc', S')))) : pc' = pc + 3 ∧ len = 3 ∧ abCat S' ≤ 8 ∧ ∃ (ix kd i1 i2 i3 : Nat) (mj : abMI), ix < 4096 ∧ abCT.lookup (mi.cn * 4096 + ix) = some (y, kd, i1, i2, i3) ∧ abMT[y]? = some mj ∧ (ab_ent as).length ≤ mj.mL ∧
    ((ins = .invokestatic ix ∧ (kd = 2 ∨ kd = 3) ∧ as.length = mj.np ∧ S = as.reverse ++ S') ∨
     ∃ (o : Nat) (as' : List Value), as = .ref o :: as' ∧ as'.length = mj.np ∧ S = as'.reverse ++ .ref o :: S' ∧ ((ins = .invokespecial ix ∧ (kd = 4 ∨ kd = 5)) ∨ (ins = .invokevirtual ix ∧ (kd = 0 ∨ kd = 1) ∧ (gT h o).map (·.1) = some (abCi.getD mj.cn 99 + 3)))) := by
  have inv : ∀ (op ix : Nat), ix < 4096 → len = 3 → (op = 0 → ins = .invokevirtual ix) → (op = 1 → ins = .invokestatic ix) → (op = 2 → ins = .invokespecial ix) → ab_inv d op mi ix pc L S h = some (.inr (.inr (y, as, pc', S'))) → pc' = pc + 3 ∧ len = 3 ∧ abCat S' ≤ 8 ∧ ∃ (ix kd i1 i2 i3 : Nat) (mj : abMI), ix < 4096 ∧ abCT.lookup (mi.cn * 4096 + ix) = some (y, kd, i1, i2, i3) ∧ abMT[y]? = some mj ∧ (ab_ent as).length ≤ mj.mL ∧
    ((ins = .invokestatic ix ∧ (kd = 2 ∨ kd = 3) ∧ as.length = mj.np ∧ S = as.reverse ++ S') ∨
     ∃ (o : Nat) (as' : List Value), as = .ref o :: as' ∧ as'.length = mj.np ∧ S = as'.reverse ++ .ref o :: S' ∧ ((ins = .invokespecial ix ∧ (kd = 4 ∨ kd = 5)) ∨ (ins = .invokevirtual ix ∧ (kd = 0 ∨ kd = 1) ∧ (gT h o).map (·.1) = some (abCi.getD mj.cn 99 + 3)))) := by
    intro op ix hix hlen o0 o1 o2 hn
    unfold ab_inv at hn
    split at hn
    · rename_i y' kd i1 i2 i3 hf
      split at hn
      · split at hn
        · split at hn
          · cases hn
          · cases hn
        · cases hn
      · split at hn
        · split at hn
          · simp only [ab_acpy, ab_go] at hn
            repeat' (split at hn)
            all_goals cases hn
          · cases hn
        · split at hn
          · split at hn
            · split at hn
              · cases hn
              · cases hn
            · cases hn
          · split at hn
            · split at hn
              · split at hn
                · cases hn
                · cases hn
              · cases hn
            · split at hn
              · rename_i mj hmj
                split at hn
                · rename_i hk
                  split at hn
                  · rename_i hc
                    cases hn
                    refine ⟨rfl, hlen, hc.2.1, ix, kd, i1, i2, i3, mj, hix, hf, hmj, hc.2.2, Or.inl ⟨o1 hk.2, hk.1, ?_, ?_⟩⟩
                    · rw [List.length_reverse, List.length_take]
                      exact Nat.min_eq_left hc.1
                    · rw [List.reverse_reverse, List.take_append_drop]
                  · cases hn
                · split at hn
                  · rename_i hk
                    split at hn
                    · rename_i o S0 hdrop
                      split at hn
                      · rename_i hc
                        cases hn
                        refine ⟨rfl, hlen, hc.2.1, ix, kd, i1, i2, i3, mj, hix, hf, hmj, hc.2.2.1, Or.inr ⟨o, (S.take mj.np).reverse, rfl, ?_, ?_, ?_⟩⟩
                        · rw [List.length_reverse, List.length_take]
                          exact Nat.min_eq_left hc.1
                        · rw [List.reverse_reverse, ← hdrop, List.take_append_drop]
                        · rcases hk with ⟨k1, k2⟩ | ⟨k1, k2⟩
                          · exact Or.inl ⟨o2 k2, k1⟩
                          · refine Or.inr ⟨o0 k2, k1, ?_⟩
                            rcases hc.2.2.2 with q | q
                            · rw [k2] at q; cases q
                            · exact q
                      · cases hn
                    · cases hn
                  · cases hn
              · cases hn
    · cases hn
  cases ins with
  | invokevirtual ix =>
    simp only [ab_ins] at e
    split at e
    · rename_i hl
      exact inv 0 ix hl.2 hl.1 (fun _ => rfl) (fun q => by cases q) (fun q => by cases q) e
    · cases e
  | invokestatic ix =>
    simp only [ab_ins] at e
    split at e
    · rename_i hl
      exact inv 1 ix hl.2 hl.1 (fun q => by cases q) (fun _ => rfl) (fun q => by cases q) e
    · cases e
  | invokespecial ix =>
    simp only [ab_ins] at e
    split at e
    · rename_i hl
      exact inv 2 ix hl.2 hl.1 (fun q => by cases q) (fun q => by cases q) (fun _ => rfl) e
    · cases e
  | newarray at0 => cases at0 <;> simp only [ab_ins, ab_newa, ab_go] at e <;> (repeat' (split at e)) <;> cases e
  | _ =>
    simp only [ab_ins] at e <;> first
      | (cases e; done)
      | skip
    all_goals (try simp only [ab_ildK, ab_aldK, ab_istK, ab_astK, ab_i2, ab_br, ab_jp, ab_get, ab_put, ab_new, ab_newa, ab_newq, ab_iald, ab_zald, ab_aald, ab_iast, ab_zast, ab_aast, ab_alen, ab_go] at e)
    all_goals (repeat' (split at e))
    all_goals (cases e; done)
theorem ab_entry_lk {ad : Nat → Nat} : ∀ (as : List Value) (i k : Nat) (v : Value), (ab_ent as)[k]? = some v → (v.category = 1 → (∀ z, v ≠ .retAddr z) → (i + k, tr ad v) ∈ lv_args i (as.map (tr ad))) ∧ (v.category = 2 → (i + k, v) ∈ lv_args i (as.map (tr ad))) := by
  intro as
  induction as with
  | nil => intro i k v hk; simp [ab_ent] at hk
  | cons a as ih =>
    intro i k v hk
    have one : ab_ent (a :: as) = a :: ab_ent as → a.category = 1 → (v.category = 1 → (∀ z, v ≠ .retAddr z) → (i + k, tr ad v) ∈ lv_args i ((a :: as).map (tr ad))) ∧ (v.category = 2 → (i + k, v) ∈ lv_args i ((a :: as).map (tr ad))) := by
      intro e1 e2
      rw [e1] at hk
      rw [List.map_cons, lv_args, tr_cat, if_neg (by omega)]
      cases k with
      | zero =>
        rw [List.getElem?_cons_zero] at hk
        cases hk
        exact ⟨fun _ _ => List.mem_cons_self, fun q => by omega⟩
      | succ k =>
        rw [List.getElem?_cons_succ] at hk
        have h1 := ih (i + 1) k v hk
        rw [show i + 1 + k = i + (k + 1) by omega] at h1
        exact ⟨fun q1 q2 => List.mem_cons_of_mem _ (h1.1 q1 q2), fun q => List.mem_cons_of_mem _ (h1.2 q)⟩
    have two : ab_ent (a :: as) = a :: .retAddr 1 :: ab_ent as → a.category = 2 → (v.category = 1 → (∀ z, v ≠ .retAddr z) → (i + k, tr ad v) ∈ lv_args i ((a :: as).map (tr ad))) ∧ (v.category = 2 → (i + k, v) ∈ lv_args i ((a :: as).map (tr ad))) := by
      intro e1 e2
      rw [e1] at hk
      rw [List.map_cons, lv_args, tr_cat, if_pos e2]
      match k, hk with
      | 0, hk =>
        rw [List.getElem?_cons_zero] at hk
        cases hk
        rw [tr_2 ad e2]
        exact ⟨fun q => by omega, fun _ => List.mem_cons_self⟩
      | 1, hk =>
        rw [List.getElem?_cons_succ, List.getElem?_cons_zero] at hk
        cases hk
        exact ⟨fun _ q => absurd rfl (q 1), fun q => by cases q⟩
      | k + 2, hk =>
        rw [List.getElem?_cons_succ, List.getElem?_cons_succ] at hk
        have h1 := ih (i + 2) k v hk
        rw [show i + 2 + k = i + (k + 2) by omega] at h1
        exact ⟨fun q1 q2 => List.mem_cons_of_mem _ (h1.1 q1 q2), fun q => List.mem_cons_of_mem _ (h1.2 q)⟩
    cases a with
    | long w => exact two rfl rfl
    | double w => exact two rfl rfl
    | _ => exact one rfl rfl
theorem ab_slen {ad : Nat → Nat} : ∀ as : List Value, (lg_sl (as.map (tr ad))).length = (ab_ent as).length := by
  intro as
  induction as with
  | nil => rfl
  | cons a as ih =>
    have e : lg_sl ((a :: as).map (tr ad)) = (if a.category = 2 then [.val (tr ad a), .second] else [.val (tr ad a)]) ++ lg_sl (as.map (tr ad)) := by
      unfold lg_sl
      rw [List.map_cons, List.flatMap_cons, tr_cat]
    rw [e, List.length_append, ih]
    cases a <;> simp [ab_ent, Value.category, Nat.add_comm]
    all_goals omega
theorem ab_entry_ok {ad : Nat → Nat} {as : List Value} {n : Nat} (hn : (ab_ent as).length ≤ n) : abLk ad (ab_entry n as) (lg_sl (as.map (tr ad)) ++ List.replicate (n - (lg_sl (as.map (tr ad))).length) Slot.unset).toArray n := by
  have h1 := lv_entry (as.map (tr ad)) (n := n) (by rw [ab_slen]; exact hn)
  refine ⟨by unfold ab_entry; rw [List.length_append, List.length_replicate]; omega, h1.1, h1.2.1, fun k v hk => ?_⟩
  unfold ab_entry at hk
  by_cases hl : k < (ab_ent as).length
  · rw [List.getElem?_append_left hl] at hk
    have h2 := ab_entry_lk (ad := ad) as 0 k v hk
    rw [Nat.zero_add] at h2
    exact ⟨fun q1 q2 => h1.2.2 _ (h2.1 q1 q2), fun q1 _ => h1.2.2 _ (h2.2 q1)⟩
  · rw [List.getElem?_append_right (by omega), List.getElem?_replicate] at hk
    split at hk
    · cases hk
      exact ⟨fun _ q => absurd rfl (q 0), fun q => by cases q⟩
    · cases hk
