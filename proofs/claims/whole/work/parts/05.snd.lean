/-! SOUNDNESS, ONE INSTRUCTION: the machine follows the abstract one -/
def abAd (B0 b t : Nat) (n : Nat) : Nat := if n = 0 then b else if n = 1 then t else B0 + (n - 2)
def tr (ad : Nat → Nat) : Value → Value
  | .ref n => .ref (ad n)
  | v => v
def rO (ad : Nat → Nat) : Value → Option Nat
  | .ref n => some (ad n)
  | _ => none
def oVs (ad : Nat → Nat) (h : abH) (o ci : Nat) : List Value := (List.range (abKs.getD ci []).length).map (fun k => if abKd ci k = 2 then va_rf (rO ad (gR h o k)) else .int (gI h o k))
def oE (cy : Nat → ClassId) (ad : Nat → Nat) (h : abH) (o : Nat) (q : Nat × Nat) : va_E :=
  if q.1 = 0 then .inl (cy 0, q.2, .inl (gI h o)) else if q.1 = 1 then .inl (cy 1, q.2, .inl (gI h o)) else if q.1 = 2 then .inl (cy 2, q.2, .inr (.inr (.inr (.inr (fun k => rO ad (gR h o k)))))) else .inr (q.1 - 3, oVs ad h o (q.1 - 3))
def aWs (cy : Nat → ClassId) (ad : Nat → Nat) (h : abH) : va_W := (List.range (h.1.length - 2)).map (fun i => (ad (i + 2), oE cy ad h (i + 2) (h.1.getD (i + 2) (0, 0))))
def absz (g : List (Nat × Nat)) : Nat := (g.map (·.2)).sum
theorem absz_push (g : List (Nat × Nat)) (t n : Nat) : absz (g ++ [(t, n)]) = absz g + n := by simp [absz]
theorem gT_lt {h : abH} {o : Nat} {q : Nat × Nat} (e : gT h o = some q) : o < h.1.length := (List.getElem?_eq_some_iff.mp e).1
theorem gT_getD {h : abH} {o : Nat} {q : Nat × Nat} (e : gT h o = some q) : h.1.getD o (0, 0) = q := by
  unfold gT at e
  rw [List.getD_eq_getElem?_getD, e]
  rfl
theorem aWs_at {cy : Nat → ClassId} {ad : Nat → Nat} {h : abH} {o : Nat} {q : Nat × Nat} (e : gT h o = some q) (h2 : 2 ≤ o) : (aWs cy ad h)[o - 2]? = some (ad o, oE cy ad h o q) := by
  have hl := gT_lt e
  have ho : o - 2 + 2 = o := by omega
  unfold aWs
  rw [List.getElem?_map, List.getElem?_range (by omega)]
  simp only [Option.map_some, ho, gT_getD e]
theorem oE_congr {cy : Nat → ClassId} {ad : Nat → Nat} {h h' : abH} {o : Nat} {q : Nat × Nat} (e1 : gI h' o = gI h o) (e2 : gR h' o = gR h o) : oE cy ad h' o q = oE cy ad h o q := by
  unfold oE oVs
  rw [e1, e2]
theorem aWs_set {cy : Nat → ClassId} {ad : Nat → Nat} {h h' : abH} {o : Nat} {q : Nat × Nat} (e : gT h o = some q) (h2 : 2 ≤ o) (hg : h'.1 = h.1) (hk : ∀ o', o' ≠ o → gI h' o' = gI h o' ∧ gR h' o' = gR h o') : aWs cy ad h' = (aWs cy ad h).set (o - 2) (ad o, oE cy ad h' o q) := by
  have hl := gT_lt e
  apply List.ext_getElem?
  intro i
  by_cases hi : i < h.1.length - 2
  · by_cases hio : i = o - 2
    · subst hio
      have ho : o - 2 + 2 = o := by omega
      rw [List.getElem?_set_self (by simp [aWs]; omega)]
      unfold aWs
      rw [List.getElem?_map, hg, List.getElem?_range (by omega)]
      simp only [Option.map_some, ho, gT_getD e]
    · rw [List.getElem?_set_ne (Ne.symm hio)]
      unfold aWs
      rw [List.getElem?_map, List.getElem?_map, hg, List.getElem?_range hi]
      obtain ⟨k1, k2⟩ := hk (i + 2) (by omega)
      simp only [Option.map_some, oE_congr k1 k2]
  · rw [List.getElem?_eq_none (by simp [aWs, hg]; omega), List.getElem?_eq_none (by simp [aWs]; omega)]
theorem nO_I {h : abH} {t n o : Nat} (ho : o ≠ h.1.length) : gI (nO h t n) o = gI h o := by simp [gI, nO, ho]
theorem nO_R {h : abH} {t n o : Nat} (ho : o ≠ h.1.length) : gR (nO h t n) o = gR h o := by funext k; simp [gR, nO, ho]
theorem aWs_push {cy : Nat → ClassId} {ad : Nat → Nat} {h : abH} {t n : Nat} (h2 : 2 ≤ h.1.length) : aWs cy ad (nO h t n) = aWs cy ad h ++ [(ad h.1.length, oE cy ad (nO h t n) h.1.length (t, n))] := by
  have e1 : (nO h t n).1 = h.1 ++ [(t, n)] := rfl
  unfold aWs
  rw [e1, List.length_append, List.length_singleton, show h.1.length + 1 - 2 = (h.1.length - 2) + 1 by omega, List.range_succ, List.map_append]
  congr 1
  · apply List.map_congr_left
    intro i hi
    have hi' := List.mem_range.mp hi
    have e3 : (h.1 ++ [(t, n)]).getD (i + 2) (0, 0) = h.1.getD (i + 2) (0, 0) := by
      rw [List.getD_eq_getElem?_getD, List.getElem?_append_left (by omega), ← List.getD_eq_getElem?_getD]
    rw [e3, oE_congr (nO_I (by omega)) (nO_R (by omega))]
  · have e4 : h.1.length - 2 + 2 = h.1.length := by omega
    simp only [List.map_cons, List.map_nil, e4]
    have e5 : (h.1 ++ [(t, n)]).getD h.1.length (0, 0) = (t, n) := by simp
    rw [e5]
theorem aWs_D {cy : Nat → ClassId} {B0 b t : Nat} {h : abH} : va_D (fun q : Nat => B0 ≤ q) (aWs cy (abAd B0 b t) h) := by
  have key : ∀ (i : Nat) (q : Nat × va_E), (aWs cy (abAd B0 b t) h)[i]? = some q → q.1 = B0 + i := by
    intro i q hq
    unfold aWs at hq
    rw [List.getElem?_map] at hq
    cases hr : (List.range (h.1.length - 2))[i]? with
    | none => rw [hr] at hq; cases hq
    | some j =>
      rw [hr] at hq
      have hj : j = i := by
        obtain ⟨a1, a2⟩ := List.getElem?_eq_some_iff.mp hr
        simpa using a2.symm
      subst hj
      cases hq
      simp [abAd]
  refine ⟨fun i j p q hi hj hpq => ?_, fun k q hk => ?_⟩
  · have e1 := key i p hi
    have e2 := key j q hj
    omega
  · have e1 := key k q hk
    show B0 ≤ q.1
    omega
theorem abAd_new {B0 b t n : Nat} (h : 2 ≤ n) : abAd B0 b t n = B0 + (n - 2) := by
  unfold abAd
  rw [if_neg (by omega), if_neg (by omega)]
/-- the tables' three arrays -/
def abTy (cy : Nat → ClassId) : List (ClassId × FieldType) := [(cy 0, .int), (cy 1, .boolean), (cy 2, .object "BufferRoom$Sheet")]
def abAb : Nat → Int32 := fun j => match j with
  | 0 => -1
  | 1 => 0
  | 2 => 0
  | 3 => 1
  | 4 => 2
  | _ => 2
/-- what lies below: the script, the static table -/
def abSt (B0 b t Ln : Nat) (xs : Nat → Int32) (U : State) : Prop :=
  va_Z "BufferRoom$Kinds" "ABOVE" "[I" (.ref t) (fun q : Nat => B0 ≤ q) U U.heap ∧ va_T .int t 6 (fun j => .int (abAb j)) (fun q : Nat => B0 ≤ q) U U.heap ∧ va_X b Ln xs U U.heap ∧ b < B0 ∧ B0 ≤ U.heap.size
def abPu (Ln : Nat) (xs : Nat → Int32) (h : abH) : Prop := gT h 0 = some (100, Ln) ∧ gT h 1 = some (101, 6) ∧ (∀ j, j < Ln → gI h 0 j = xs j) ∧ (∀ j, j < 6 → gI h 1 j = abAb j)
theorem abPu.len {Ln : Nat} {xs : Nat → Int32} {h : abH} (P : abPu Ln xs h) : 2 ≤ h.1.length := gT_lt P.2.1
/-- where a cell that can be changed lies -/
theorem abPu.two {Ln : Nat} {xs : Nat → Int32} {h : abH} (P : abPu Ln xs h) {o : Nat} {q : Nat × Nat} (e : gT h o = some q) (hq : q.1 < 100) : 2 ≤ o := by
  obtain ⟨h0, h1, -⟩ := P
  match o, e with
  | 0, e => rw [h0] at e; cases e; exact absurd hq (Nat.lt_irrefl 100)
  | 1, e => rw [h1] at e; cases e; exact absurd hq (show ¬ 101 < 100 by decide)
  | n + 2, _ => omega
def abFix (p : Program) (R : Room) (s : State) (m : MethodId) (args : Array Value) (meth : Method) (c : Code) (mi : abMI) (d : Nat) (D : va_G) (cy : Nat → ClassId) : Prop :=
  p.tables.exec = Jvm.exec ∧ c.code = mi.by ∧ meth.sig.returnType = mi.rt ∧ c.maxLocals = mi.mL ∧ s.vm.findClass mi.nm.cls = some m.cls ∧ (∀ w ∈ abW0, w.before args s = true) ∧ meth.locks = false ∧ (mi.nm.name = "<init>" → meth.name = "<init>") ∧ va_K D vwCl (abTy cy) s ∧ d ≤ R.frames ∧ d * 64 ≤ R.locals ∧ (∀ w ∈ abNw, va_Nw w s) ∧ va_AO "BufferRoom$Sheet" s ∧ abCN[mi.cn]? = some mi.nm.cls
def abDy (D : va_G) (cy : Nat → ClassId) (B0 b t Ln : Nat) (xs : Nat → Int32) (s : State) (h : abH) (H : Heap) (locs : List Loc) : Prop :=
  va_P D vwCl (aWs cy (abAd B0 b t) h) H ∧ va_S (fun q : Nat => B0 ≤ q) s.heap H locs ∧ H.size + 2 = B0 + h.1.length ∧ abPu Ln xs h
def abLk (ad : Nat → Nat) (L : List Value) (ls : Array Slot) (nL : Nat) : Prop := L.length = nL ∧ ls.size = nL ∧ lv_wf ls ∧ ∀ (k : Nat) (v : Value), L[k]? = some v →
  (v.category = 1 → (∀ z, v ≠ .retAddr z) → ls[k]? = some (.val (tr ad v))) ∧ (v.category = 2 → L[k + 1]? = some (.retAddr 1) → ls[k]? = some (.val v))
section SND
variable (p : Program) (l : Launch) (e : Env) (R : Room) (s : State) (m : MethodId) (args : Array Value) (below : List Frame) (meth : Method) (c : Code) (Q : State → Prop) (mi : abMI) (D : va_G) (cy : Nat → ClassId) (B0 b t Ln : Nat) (xs : Nat → Int32) (c0 s0 : Nat)
def abW (pc : Nat) (L S : List Value) (h : abH) : Prop :=
  ∀ (H : Heap) (locs : List Loc) (ls : Array Slot), abDy D cy B0 b t Ln xs s h H locs → abLk (abAd B0 b t) L ls mi.mL → W p l e R s m args below meth c H locs (h.1.length - c0) (absz h.1 - s0) Q (F0 m pc ls (S.map (tr (abAd B0 b t))))
end SND
section SNE
variable {p : Program} {l : Launch} {e : Env} {R : Room} {s : State} {m : MethodId} {args : Array Value} {below : List Frame} {meth : Method} {c : Code} {Q : State → Prop} {mi : abMI} {D : va_G} {cy : Nat → ClassId} {B0 b t Ln : Nat} {xs : Nat → Int32} {c0 s0 : Nat} {d pc pc' len : Nat} {L S L' S' : List Value} {h h' : abH}
theorem ab_goE (hn : ab_go pc L S h = some (.inl (pc', L', S', h'))) : pc = pc' ∧ L = L' ∧ S = S' ∧ h = h' := by
  simp only [ab_go, Option.some.injEq, Sum.inl.injEq, Prod.mk.injEq] at hn
  exact hn
/-- instructions that look at the stack and at nothing else -/
theorem sd_i2 {f : Int32 → Int32 → Int32} (row : ∀ (u v : Int32) (H : Heap) (locs : List Loc) (cl sl : Nat) (ls : Array Slot) (rest : List Value), W p l e R s m args below meth c H locs cl sl Q (F0 m (pc + 1) ls (.int (f u v) :: rest)) → W p l e R s m args below meth c H locs cl sl Q (F0 m pc ls (.int v :: .int u :: rest)))
    (hn : ab_i2 f pc L S h = some (.inl (pc', L', S', h'))) (K : abW p l e R s m args below meth c Q mi D cy B0 b t Ln xs c0 s0 pc' L' S' h') : abW p l e R s m args below meth c Q mi D cy B0 b t Ln xs c0 s0 pc L S h := by
  unfold ab_i2 at hn
  split at hn
  · obtain ⟨rfl, rfl, rfl, rfl⟩ := ab_goE hn
    intro H locs ls hd hl
    exact row _ _ _ _ _ _ _ _ (K H locs ls hd hl)
  · cases hn
theorem sd_br {cd : Jvm.ClassFile.Cond} {u v : Int32} {off : Int} {st : List Value} {T : List Value} (hst : T = S.map (tr (abAd B0 b t)))
    (row : ∀ (H : Heap) (locs : List Loc) (cl sl : Nat) (ls : Array Slot) (tgt : Nat), (pc : Int) + off = (tgt : Int) → (ab_c cd u v = true → W p l e R s m args below meth c H locs cl sl Q (F0 m tgt ls T)) → (¬ ab_c cd u v = true → W p l e R s m args below meth c H locs cl sl Q (F0 m (pc + 3) ls T)) → W p l e R s m args below meth c H locs cl sl Q (F0 m pc ls st))
    (hn : ab_br (ab_c cd u v) pc off L S h = some (.inl (pc', L', S', h'))) (K : abW p l e R s m args below meth c Q mi D cy B0 b t Ln xs c0 s0 pc' L' S' h') :
    ∀ (H : Heap) (locs : List Loc) (ls : Array Slot), abDy D cy B0 b t Ln xs s h H locs → abLk (abAd B0 b t) L ls mi.mL → W p l e R s m args below meth c H locs (h.1.length - c0) (absz h.1 - s0) Q (F0 m pc ls st) := by
  intro H locs ls hd hl
  unfold ab_br at hn
  split at hn
  · rename_i h0
    refine row H locs _ _ ls (((pc : Int) + off).toNat) (by omega) (fun hc => ?_) (fun hc => ?_)
    · rw [if_pos hc] at hn
      obtain ⟨rfl, rfl, rfl, rfl⟩ := ab_goE hn
      rw [hst]
      exact K H locs ls hd hl
    · rw [if_neg hc] at hn
      obtain ⟨rfl, rfl, rfl, rfl⟩ := ab_goE hn
      rw [hst]
      exact K H locs ls hd hl
  · cases hn
theorem ab_jpE {off : Int} (hn : ab_jp pc off L S h = some (.inl (pc', L', S', h'))) : (pc : Int) + off = (pc' : Int) ∧ L = L' ∧ S = S' ∧ h = h' := by
  unfold ab_jp at hn
  split at hn
  · obtain ⟨rfl, rfl, rfl, rfl⟩ := ab_goE hn
    exact ⟨by omega, rfl, rfl, rfl⟩
  · cases hn
theorem sd_if {cd : Jvm.ClassFile.Cond} {off : Int} {u : Int32} {S0 : List Value} (hx : p.tables.exec = Jvm.exec) (hb : c.code = mi.by) (hdg : decode mi.by pc = .ok (.ifCond cd off, 3))
    (hn : ab_br (ab_c cd u 0) pc off L S0 h = some (.inl (pc', L', S', h'))) (K : abW p l e R s m args below meth c Q mi D cy B0 b t Ln xs c0 s0 pc' L' S' h') : abW p l e R s m args below meth c Q mi D cy B0 b t Ln xs c0 s0 pc L (.int u :: S0) h := by
  refine sd_br (st := .int u :: S0.map (tr (abAd B0 b t))) rfl ?_ hn K
  intro H locs cl sl ls tgt ht kt kf
  cases cd with
  | eq => exact lv_if_eq hx hb hdg ht (fun q => kt (by simpa [ab_c] using q)) (fun q => kf (by simpa [ab_c] using q))
  | ne => exact lv_if_ne hx hb hdg ht (fun q => kt (by simpa [ab_c] using q)) (fun q => kf (by simpa [ab_c] using q))
  | lt => exact lv_if_lt hx hb hdg ht (fun q => kt (by simpa [ab_c] using q)) (fun q => kf (by simpa [ab_c] using q))
  | ge => exact lv_if_ge hx hb hdg ht (fun q => kt (by simpa [ab_c] using q)) (fun q => kf (by simpa [ab_c] using q))
  | gt => exact lv_if_gt hx hb hdg ht (fun q => kt (by simpa [ab_c] using q)) (fun q => kf (by simpa [ab_c] using q))
  | le => exact lv_if_le hx hb hdg ht (fun q => kt (by simpa [ab_c] using q)) (fun q => kf (by simpa [ab_c] using q))
theorem sd_icmp {cd : Jvm.ClassFile.Cond} {off : Int} {u v : Int32} {S0 : List Value} (hx : p.tables.exec = Jvm.exec) (hb : c.code = mi.by) (hdg : decode mi.by pc = .ok (.if_icmp cd off, 3))
    (hn : ab_br (ab_c cd u v) pc off L S0 h = some (.inl (pc', L', S', h'))) (K : abW p l e R s m args below meth c Q mi D cy B0 b t Ln xs c0 s0 pc' L' S' h') : abW p l e R s m args below meth c Q mi D cy B0 b t Ln xs c0 s0 pc L (.int v :: .int u :: S0) h := by
  refine sd_br (st := .int v :: .int u :: S0.map (tr (abAd B0 b t))) rfl ?_ hn K
  intro H locs cl sl ls tgt ht kt kf
  cases cd with
  | eq => exact lv_icmp_eq hx hb hdg ht (fun q => kt (by simpa [ab_c] using q)) (fun q => kf (by simpa [ab_c] using q))
  | ne => exact lv_icmp_ne hx hb hdg ht (fun q => kt (by simpa [ab_c] using q)) (fun q => kf (by simpa [ab_c] using q))
  | lt => exact lv_icmp_lt hx hb hdg ht (fun q => kt (by simpa [ab_c] using q)) (fun q => kf (by simpa [ab_c] using q))
  | ge => exact lv_icmp_ge hx hb hdg ht (fun q => kt (by simpa [ab_c] using q)) (fun q => kf (by simpa [ab_c] using q))
  | gt => exact lv_icmp_gt hx hb hdg ht (fun q => kt (by simpa [ab_c] using q)) (fun q => kf (by simpa [ab_c] using q))
  | le => exact lv_icmp_le hx hb hdg ht (fun q => kt (by simpa [ab_c] using q)) (fun q => kf (by simpa [ab_c] using q))
/-- locals -/
theorem abLk.i {ad : Nat → Nat} {ls : Array Slot} {nL k : Nat} {a : Int32} (hl : abLk ad L ls nL) (hk : L[k]? = some (.int a)) : ls[k]? = some (.val (.int a)) := ((hl.2.2.2 k _ hk).1 rfl (fun z q => by cases q))
theorem abLk.a {ad : Nat → Nat} {ls : Array Slot} {nL k : Nat} {a : Nat} (hl : abLk ad L ls nL) (hk : L[k]? = some (.ref a)) : ls[k]? = some (.val (.ref (ad a))) := ((hl.2.2.2 k _ hk).1 rfl (fun z q => by cases q))
theorem abLk.lg {ad : Nat → Nat} {ls : Array Slot} {nL k : Nat} {a : Int64} (hl : abLk ad L ls nL) (hk : L[k]? = some (.long a)) (h1 : L[k + 1]? = some (.retAddr 1)) : ls[k]? = some (.val (.long a)) := ((hl.2.2.2 k _ hk).2 rfl h1)
def abOkL (L : List Value) (k : Nat) (v : Value) : Bool := (v.category == 1 && (match v with | .retAddr _ => false | _ => true)) || (v.category == 2 && decide (L[k + 1]? = some (.retAddr 1)))
def abLs (ad : Nat → Nat) (L : List Value) : List (Nat × Value) := (List.range L.length).filterMap (fun k => match L[k]? with
  | some v => if abOkL L k v = true then some (k, tr ad v) else none
  | none => none)
theorem tr_cat (ad : Nat → Nat) (v : Value) : (tr ad v).category = v.category := by cases v <;> rfl
theorem tr_2 (ad : Nat → Nat) {v : Value} (h : v.category = 2) : tr ad v = v := by cases v <;> first | rfl | (simp [Value.category] at h)
theorem abLs_mem {ad : Nat → Nat} {k : Nat} {v : Value} (hk : L[k]? = some v) (ho : abOkL L k v = true) : (k, tr ad v) ∈ abLs ad L := by
  unfold abLs
  rw [List.mem_filterMap]
  refine ⟨k, List.mem_range.mpr (List.getElem?_eq_some_iff.mp hk).1, ?_⟩
  rw [hk]
  simp only [ho, if_true]
theorem abLs_has {ad : Nat → Nat} {ls : Array Slot} {nL : Nat} (hl : abLk ad L ls nL) : lv_has ls nL (abLs ad L) := by
  refine ⟨hl.2.1, hl.2.2.1, fun q hq => ?_⟩
  unfold abLs at hq
  rw [List.mem_filterMap] at hq
  obtain ⟨k, -, hk⟩ := hq
  split at hk
  · rename_i v hv
    split at hk
    · rename_i ho
      cases hk
      obtain ⟨h1, h2⟩ := hl.2.2.2 k v hv
      simp only [abOkL, Bool.or_eq_true, Bool.and_eq_true, beq_iff_eq, decide_eq_true_eq] at ho
      rcases ho with ⟨a1, a2⟩ | ⟨a1, a2⟩
      · exact h1 a1 (fun z e => by rw [e] at a2; cases a2)
      · show ls[k]? = some (.val (tr ad v))
        rw [tr_2 ad a1]
        exact h2 a1 a2
    · cases hk
  · cases hk
theorem abLk.st {ad : Nat → Nat} {ls ls' : Array Slot} {nL i : Nat} {w : Value} (hl : abLk ad L ls nL) (hi : i < L.length) (hw : w.category = 1) (hr : ∀ z, w ≠ .retAddr z)
    (h : lv_has ls' nL ((i, tr ad w) :: (abLs ad L).filter (fun q => !(q.1 == i) && !(q.1 + 1 == i && q.2.category == 2)))) : abLk ad (L.set i w) ls' nL := by
  refine ⟨by rw [List.length_set]; exact hl.1, h.1, h.2.1, fun k v hk => ?_⟩
  by_cases hki : k = i
  · subst hki
    rw [List.getElem?_set_self hi] at hk
    have ev := Option.some.inj hk
    subst ev
    exact ⟨fun _ _ => h.2.2 (k, tr ad w) List.mem_cons_self, fun q => by omega⟩
  · rw [List.getElem?_set_ne (Ne.symm hki)] at hk
    refine ⟨fun h1 h2 => ?_, fun h1 h2 => ?_⟩
    · refine h.2.2 (k, tr ad v) (List.mem_cons_of_mem _ (List.mem_filter.mpr ⟨abLs_mem hk ?_, ?_⟩))
      · have hm : (match v with | .retAddr _ => false | _ => true) = true := by cases v <;> first | rfl | exact absurd rfl (h2 _)
        simp only [abOkL, h1, hm]
        rfl
      · simp [hki, tr_cat, h1]
    · have hk1 : k + 1 ≠ i := by
        intro q
        rw [q, List.getElem?_set_self hi] at h2
        cases h2
        exact hr 1 rfl
      rw [List.getElem?_set_ne (Ne.symm hk1)] at h2
      have h3 : ls'[k]? = some (.val (tr ad v)) := h.2.2 (k, tr ad v) (List.mem_cons_of_mem _ (List.mem_filter.mpr ⟨abLs_mem hk (by simp [abOkL, h1, h2]), by simp [hki, hk1]⟩))
      rw [h3, tr_2 ad h1]
theorem abLk.z {ad : Nat → Nat} {ls : Array Slot} {nL : Nat} (hl : abLk ad L ls nL) : L.length = nL := hl.1
end SNE
