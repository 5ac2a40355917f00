/-! SOUNDNESS OF RUNS -/
theorem ab_isN {w : Cond} (h : w ∈ abNw) : (∃ a i b n d q, w = .fieldLinkNest a i b n d q) ∨ ∃ a i y q, w = .methodLinkNest a i y q := by
  have h1 := (List.mem_filter.mp h).2
  unfold abIsN at h1
  split at h1
  · exact Or.inl ⟨_, _, _, _, _, _, rfl⟩
  · exact Or.inr ⟨_, _, _, _, rfl⟩
  · cases h1
theorem ab_warm {s U : State} (hW : s.WarmedH U.vm) (h : ∀ w ∈ abNw, va_Nw w s) : ∀ w ∈ abNw, va_Nw w U := by
  intro w hw
  have h1 := h w hw
  rcases ab_isN hw with ⟨a, i, b, n, d, q, rfl⟩ | ⟨a, i, y, q, rfl⟩
  · exact va_Nw.warmF hW h1
  · exact va_Nw.warmM hW h1
theorem ab_same {s U : State} (hW : s.vm = U.vm) (h : ∀ w ∈ abNw, va_Nw w s) : ∀ w ∈ abNw, va_Nw w U := by
  intro w hw
  have h1 := h w hw
  rcases ab_isN hw with ⟨a, i, b, n, d, q, rfl⟩ | ⟨a, i, y, q, rfl⟩
  · exact va_Nw.same rfl hW h1
  · exact va_Nw.same rfl hW h1
def abRm (d n k : Nat) : Room := { frames := d, cells := n, slots := k, locals := d * 64 }
def abWs (mi : abMI) : List Cond := Cond.code mi.nm mi.by mi.mL mi.rt :: abW0
def abPre (D : va_G) (cy : Nat → ClassId) (B0 b t Ln : Nat) (xs : Nat → Int32) (h : abH) (U : State) : Prop :=
  va_P D vwCl (aWs cy (abAd B0 b t) h) U.heap ∧ va_K D vwCl (abTy cy) U ∧ U.heap.size + 2 = B0 + h.1.length ∧ abSt B0 b t Ln xs U ∧ (∀ w ∈ abNw, va_Nw w U) ∧ va_AO "BufferRoom$Sheet" U ∧ abPu Ln xs h
def abEnd (D : va_G) (cy : Nat → ClassId) (B0 b t Ln : Nat) (xs : Nat → Int32) (h : abH) (U : State) : Prop :=
  va_P D vwCl (aWs cy (abAd B0 b t) h) U.heap ∧ U.heap.size + 2 = B0 + h.1.length ∧ abPu Ln xs h
def abQ (D : va_G) (cy : Nat → ClassId) (B0 b t Ln : Nat) (xs : Nat → Int32) (v : Option Value) (h : abH) : Array Value → State → Outcome → State → Prop := match v with
  | some (.int r) => va_Qi (fun (r' : Int32) (_ : Unit) => r' = r) (fun _ U => abEnd D cy B0 b t Ln xs h U) (fun q : Nat => B0 ≤ q)
  | _ => va_Qv (fun _ : Unit => True) (fun _ U => abEnd D cy B0 b t Ln xs h U) (fun q : Nat => B0 ≤ q)
theorem abSt.to {B0 b t Ln : Nat} {xs : Nat → Int32} {s U : State} {H : Heap} {locs : List Loc} (h : abSt B0 b t Ln xs s) (hS : va_S (fun q : Nat => B0 ≤ q) s.heap H locs) (hU : U.heap = H) (hW : s.vm.Alike U.vm) : abSt B0 b t Ln xs U := by
  obtain ⟨z1, z2, z3, z4, z5⟩ := h
  refine ⟨?_, ?_, ?_, z4, ?_⟩
  · rw [hU]
    exact va_Z.moved hW (z1.kept (fun a h1 h2 => hS.2.1 a h1 h2))
  · rw [hU]
    exact va_T.moved hW (z2.kept (fun a h1 h2 => hS.2.1 a h1 h2))
  · rw [hU]
    exact va_X.moved hW (z3.kept (hS.2.1 b (Nat.lt_of_lt_of_le z4 z5) (Nat.not_le.mpr z4)))
  · rw [hU]
    exact Nat.le_trans z5 hS.1
theorem abPre.blind {D : va_G} {cy : Nat → ClassId} {B0 b t Ln : Nat} {xs : Nat → Int32} {h : abH} {as : List Value} : FrameBlind (va_Pc as (abPre D cy B0 b t Ln xs h)) := by
  intro a U g mk q
  obtain ⟨q0, q1, q2, q3, ⟨y1, y2, y3, y4, y5⟩, q5, q6, q7⟩ := q
  exact ⟨q0, q1, va_K.moved (u := U) (U := U.calling g mk a) (Vm.Alike.refl U.vm) q2, q3, ⟨va_Z.moved (u := U) (U := U.calling g mk a) (Vm.Alike.refl U.vm) y1, va_T.moved (u := U) (U := U.calling g mk a) (Vm.Alike.refl U.vm) y2, va_X.moved (u := U) (U := U.calling g mk a) (Vm.Alike.refl U.vm) y3, y4, y5⟩, ab_same (s := U) (U := U.calling g mk a) rfl q5, va_AO.moved (u := U) (U := U.calling g mk a) (Vm.Alike.refl U.vm) q6, q7⟩
/-- a call's start -/
theorem abPre.of {p : Program} {R : Room} {s : State} {m : MethodId} {args : Array Value} {meth : Method} {c : Code} {mi : abMI} {d : Nat} {D : va_G} {cy : Nat → ClassId} {B0 b t Ln : Nat} {xs : Nat → Int32} {h : abH} {H : Heap} {locs : List Loc} (F : abFix p R s m args meth c mi d D cy) (St : abSt B0 b t Ln xs s) (hd : abDy D cy B0 b t Ln xs s h H locs) {U : State} (hU : U.heap = H) (hW : s.WarmedH U.vm) : abPre D cy B0 b t Ln xs h U := by
  obtain ⟨-, -, -, -, -, -, -, -, hK, -, -, hNw, hAO, -⟩ := F
  obtain ⟨a1, a2, a3, a4⟩ := hd
  exact ⟨by rw [hU]; exact a1, va_K.moved hW.alike hK, by rw [hU]; exact a3, St.to a2 hU hW.alike, ab_warm hW hNw, va_AO.moved hW.alike hAO, a4⟩
/-- what is made stays -/
theorem ab_grI {d len pc pc' : Nat} {mi : abMI} {L S L' S' : List Value} {h h' : abH} {ins : Instr} (hn : ab_ins d mi pc len L S h ins = some (.inl (pc', L', S', h'))) : h'.1 = h.1 ∨ ∃ t n, h'.1 = h.1 ++ [(t, n)] := by
  have go : ∀ {pc1 : Nat} {L1 S1 : List Value} {h1 : abH}, ab_go pc1 L1 S1 h1 = some (.inl (pc', L', S', h')) → h1.1 = h.1 → h'.1 = h.1 ∨ ∃ t n, h'.1 = h.1 ++ [(t, n)] := by
    intro pc1 L1 S1 h1 e e1
    obtain ⟨-, -, -, rfl⟩ := ab_goE e
    exact Or.inl e1
  have mk : ∀ {pc1 : Nat} {L1 S1 : List Value} {t1 n1 : Nat}, ab_go pc1 L1 S1 (nO h t1 n1) = some (.inl (pc', L', S', h')) → h'.1 = h.1 ∨ ∃ t n, h'.1 = h.1 ++ [(t, n)] := by
    intro pc1 L1 S1 t1 n1 e
    obtain ⟨-, -, -, rfl⟩ := ab_goE e
    exact Or.inr ⟨_, _, rfl⟩
  have key : ∀ {x : Option abNx}, x = some (.inl (pc', L', S', h')) → (x = none → False) := fun e1 e2 => by rw [e2] at e1; cases e1
  cases ins <;> simp only [ab_ins] at hn <;> first
    | cases hn
    | skip
  all_goals (try simp only [ab_ildK, ab_aldK, ab_istK, ab_astK, ab_i2, ab_br, ab_jp, ab_get, ab_put, ab_new, ab_newa, ab_newq, ab_iald, ab_zald, ab_aald, ab_iast, ab_zast, ab_aast, ab_alen, ab_inv, ab_acpy] at hn)
  all_goals (repeat' (split at hn))
  all_goals first
    | exact go hn rfl
    | exact mk hn
    | cases hn
