/-! WHAT THE TABLES SAY, decided once -/
def abIsN : Cond → Bool
  | .fieldLinkNest _ _ _ _ _ _ => true
  | .methodLinkNest _ _ _ _ => true
  | _ => false
def abW0 : List Cond := lw_tbl.filter goodWord
def abNw : List Cond := lw_tbl.filter abIsN
theorem abW0_in {i : Nat} {w : Cond} (h : lw_tbl[i]? = some w) (g : goodWord w = true) : w ∈ abW0 := List.mem_filter.mpr ⟨List.mem_of_getElem? h, g⟩
theorem abNw_in {i : Nat} {w : Cond} (h : lw_tbl[i]? = some w) (g : abIsN w = true) : w ∈ abNw := List.mem_filter.mpr ⟨List.mem_of_getElem? h, g⟩
theorem abW0_good : GoodIn abW0 abW0 := fun w hw => ⟨hw, good_of_word (List.mem_filter.mp hw).2⟩
def abAt (i : Nat) (w : Cond) : Bool := decide (lw_tbl[i]? = some w)
def abGd (i : Nat) (w : Cond) : Bool := abAt i w && goodWord w
theorem abGd_in {i : Nat} {w : Cond} (h : abGd i w = true) : w ∈ abW0 := by
  simp only [abGd, abAt, Bool.and_eq_true, decide_eq_true_eq] at h
  exact abW0_in h.1 h.2
theorem abNd_in {i : Nat} {w : Cond} (h : abAt i w = true) (g : abIsN w = true) : w ∈ abNw := by
  simp only [abAt, decide_eq_true_eq] at h
  exact abNw_in h g
def abTyp (ci : Nat) : Nat → FieldType := match ci with
  | 0 => tyX0
  | 1 => tyX1
  | 2 => tyX3
  | 3 => tyX4
  | 4 => tyX5
  | 5 => tyX6
  | 6 => tyX7
  | 7 => tyX8
  | 8 => tyX9
  | 9 => tyX10
  | 10 => tyX11
  | _ => tyX12
def abFk : FieldType → Nat
  | .int => 0
  | .boolean => 1
  | .object _ => 2
  | .array _ => 2
  | _ => 9
def okK (ci : Nat) : Bool := match vwCl[ci]? with
  | some q => decide ((abKs.getD ci []).length = q.2.2) && (List.range q.2.2).all (fun k => decide (abKd ci k = abFk (abTyp ci k)) && decide ((q.2.1 k).1 = q.1))
  | none => true
set_option maxRecDepth 100000 in
theorem okK_all : (List.range 12).all okK = true := by decide +kernel
def okF (e : Nat × Nat × Nat × Nat × Nat) : Bool := match vwCl[e.2.1]?, abCN[e.1 / 4096]? with
  | some q, some own => decide (e.2.2.1 < q.2.2) && (if e.2.2.2.1 = 0 then abGd e.2.2.2.2 (.fieldLink own (e.1 % 4096) q.1 (q.2.1 e.2.2.1).2.1 (q.2.1 e.2.2.1).2.2.1) else abAt e.2.2.2.2 (.fieldLinkNest own (e.1 % 4096) q.1 (q.2.1 e.2.2.1).2.1 (q.2.1 e.2.2.1).2.2.1 "BufferRoom"))
  | _, _ => false
set_option maxRecDepth 100000 in
theorem okF_all : abFT.all okF = true := by decide +kernel
def abNoH (c : String) : Bool := decide (c ≠ "java/lang/invoke/MethodHandle") && decide (c ≠ "java/lang/invoke/VarHandle")
set_option maxRecDepth 100000 in
theorem okNoH : abCN.all (fun c => abNoH c && (plainName c || decide (c = "java/lang/Math"))) = true := by decide +kernel
def abAll {α : Type} (P : α → Prop) : List α → Prop
  | [] => True
  | a :: l => P a ∧ abAll P l
theorem abAll_mem {α : Type} {P : α → Prop} {l : List α} (h : abAll P l) : ∀ a ∈ l, P a := by
  induction l with
  | nil => intro a ha; cases ha
  | cons b l ih =>
    intro a ha
    rcases List.mem_cons.mp ha with rfl | ha
    · exact h.1
    · exact ih h.2 a ha
def okMp (mi : abMI) : Prop := abCN[mi.cn]? = some mi.nm.cls ∧ mi.cn ≠ 15 ∧ lw_tbl[mi.iC]? = some (.code mi.nm mi.by mi.mL mi.rt) ∧ lw_tbl[mi.iI]? = some (.initialized mi.nm.cls) ∧ (parseMethodDescriptor mi.nm.desc).map (fun d => d.parameters.length) = some mi.np ∧ (mi.rt = none ∨ mi.rt = some .int ∨ mi.rt = some .boolean) ∧ mi.mL ≤ 40
def okCp (e : Nat × Nat × Nat × Nat × Nat × Nat) : Prop := ∃ (own : String) (mj : abMI), abCN[e.1 / 4096]? = some own ∧ abMT[e.2.1]? = some mj ∧ e.2.1 < 220 ∧ match e.2.2.1 with
    | 0 => lw_tbl[e.2.2.2.1]? = some (.methodLink own (e.1 % 4096) mj.nm) ∧ lw_tbl[e.2.2.2.2.1]? = some (.instanceMethod mj.nm) ∧ lw_tbl[e.2.2.2.2.2]? = some (.selects mj.nm.cls mj.nm mj.nm)
    | 1 => lw_tbl[e.2.2.2.1]? = some (.methodLinkNest own (e.1 % 4096) mj.nm "BufferRoom") ∧ lw_tbl[e.2.2.2.2.1]? = some (.instanceMethod mj.nm) ∧ lw_tbl[e.2.2.2.2.2]? = some (.selects mj.nm.cls mj.nm mj.nm)
    | 2 => lw_tbl[e.2.2.2.1]? = some (.methodLink own (e.1 % 4096) mj.nm) ∧ lw_tbl[e.2.2.2.2.1]? = some (.static mj.nm)
    | 3 => lw_tbl[e.2.2.2.1]? = some (.methodLinkNest own (e.1 % 4096) mj.nm "BufferRoom") ∧ lw_tbl[e.2.2.2.2.1]? = some (.static mj.nm)
    | 4 => lw_tbl[e.2.2.2.1]? = some (.methodLink own (e.1 % 4096) mj.nm) ∧ lw_tbl[e.2.2.2.2.1]? = some (.instanceMethod mj.nm) ∧ mj.nm.name = "<init>" ∧ mj.rt = none
    | 5 => lw_tbl[e.2.2.2.1]? = some (.methodLinkNest own (e.1 % 4096) mj.nm "BufferRoom") ∧ lw_tbl[e.2.2.2.2.1]? = some (.instanceMethod mj.nm) ∧ mj.nm.name = "<init>" ∧ mj.rt = none
    | 6 => lw_tbl[e.2.2.2.1]? = some (.methodLink own (e.1 % 4096) Lib.objectInit) ∧ lw_tbl[e.2.2.2.2.1]? = some (.instanceMethod Lib.objectInit) ∧ lw_tbl[e.2.2.2.2.2]? = some (.code Lib.objectInit ⟨#[0xb1]⟩ 1 none)
    | 8 => lw_tbl[e.2.2.2.1]? = some (.methodLink own (e.1 % 4096) Lib.Math.max.name) ∧ lw_tbl[e.2.2.2.2.1]? = some (.static Lib.Math.max.name) ∧ lw_tbl[e.2.2.2.2.2]? = some (.code Lib.Math.max.name Lib.Math.max.code 2 (some .int))
    | 9 => lw_tbl[e.2.2.2.1]? = some (.methodLink own (e.1 % 4096) Lib.Math.min.name) ∧ lw_tbl[e.2.2.2.2.1]? = some (.static Lib.Math.min.name) ∧ lw_tbl[e.2.2.2.2.2]? = some (.code Lib.Math.min.name Lib.Math.min.code 2 (some .int))
    | 7 => lw_tbl[e.2.2.2.1]? = some (.methodLink own (e.1 % 4096) arraycopyName) ∧ lw_tbl[e.2.2.2.2.1]? = some (.native arraycopyName) ∧ lw_tbl[e.2.2.2.2.2]? = some (.static arraycopyName)
    | _ => False
def okN (e : Nat × Nat × Nat × Nat × Nat) : Bool := match abCN[e.1 / 4096]?, vwCl[e.2.1]? with
  | some own, some q => abGd e.2.2.1 (.classLink own (e.1 % 4096) q.1) && abGd e.2.2.2.1 (.instantiable q.1 q.2.2) && abGd e.2.2.2.2 (.initialized q.1)
  | _, _ => false
set_option maxRecDepth 100000 in
theorem okN_all : abNT.all okN = true := by decide +kernel
def okKT (e : Nat × Int32 × Nat) : Bool := match abCN[e.1 / 4096]? with
  | some own => abGd e.2.2 (.constant own (e.1 % 4096) e.2.1)
  | _ => false
set_option maxRecDepth 100000 in
theorem okKT_all : abKT.all okKT = true := by decide +kernel
def okLT (e : Nat × Int64 × Nat) : Bool := match abCN[e.1 / 4096]? with
  | some own => abGd e.2.2 (.constantLong own (e.1 % 4096) e.2.1)
  | _ => false
set_option maxRecDepth 100000 in
theorem okLT_all : abLT.all okLT = true := by decide +kernel
def okST (e : Nat × Nat) : Bool := match abCN[e.1 / 4096]? with
  | some own => abGd e.2 (.fieldLink own (e.1 % 4096) "BufferRoom$Kinds" "ABOVE" "[I")
  | _ => false
set_option maxRecDepth 100000 in
theorem okST_all : abST.all okST = true := by decide +kernel
set_option maxRecDepth 100000 in
theorem abSys_in : Cond.initialized "java/lang/System" ∈ abW0 := abGd_in (i := 98) (by decide +kernel)
set_option maxRecDepth 100000 in
theorem abArrI_in : Cond.arrayClass .int ∈ abW0 := abGd_in (i := 131) (by decide +kernel)
set_option maxRecDepth 100000 in
theorem abArrZ_in : Cond.arrayClass .boolean ∈ abW0 := abGd_in (i := 205) (by decide +kernel)
theorem ab_look {α : Type} {l : List (Nat × α)} {k : Nat} {v : α} (h : l.lookup k = some v) : (k, v) ∈ l := by
  induction l with
  | nil => cases h
  | cons q l ih =>
    obtain ⟨k', v'⟩ := q
    rw [List.lookup_cons] at h
    split at h
    · rename_i e
      cases h
      rw [beq_iff_eq] at e
      rw [e]
      exact List.mem_cons_self
    · exact List.mem_cons_of_mem _ (ih h)
theorem okK_at {ci : Nat} {q : vw_C} (h : vwCl[ci]? = some q) : (abKs.getD ci []).length = q.2.2 ∧ ∀ k, k < q.2.2 → abKd ci k = abFk (abTyp ci k) ∧ (q.2.1 k).1 = q.1 := by
  have hl : ci < 12 := (List.getElem?_eq_some_iff.mp h).1
  have h1 := List.all_eq_true.mp okK_all ci (List.mem_range.mpr hl)
  rw [okK, h] at h1
  simp only [Bool.and_eq_true, decide_eq_true_eq, List.all_eq_true, List.mem_range] at h1
  exact h1
set_option maxRecDepth 100000 in
theorem okU {w : Cond} : ∀ q ∈ vwCl, w ∈ u_ws q.1 q.2.1 q.2.2 → w ∈ abW0 := by
  have h : vwCl.all (fun q => (u_ws q.1 q.2.1 q.2.2).all (fun w => decide (w ∈ lw_tbl) && goodWord w)) = true := by decide +kernel
  intro q hq hw
  have h1 := List.all_eq_true.mp h q hq
  have h2 := List.all_eq_true.mp h1 w hw
  simp only [Bool.and_eq_true, decide_eq_true_eq] at h2
  exact List.mem_filter.mpr h2
set_option maxRecDepth 100000 in
theorem okTy {ci : Nat} {q : vw_C} (h : vwCl[ci]? = some q) : (∀ k, k < q.2.2 → parseFieldDescriptor (q.2.1 k).2.2.1 = some (abTyp ci k)) ∧ (∀ a, a < q.2.2 → ∀ b, b < q.2.2 → a ≠ b → (q.2.1 a).2.1 ≠ (q.2.1 b).2.1) := by
  match ci, h with
  | 0, h => cases h; exact ⟨tyX0_ok, nmX0⟩
  | 1, h => cases h; exact ⟨tyX1_ok, nmX1⟩
  | 2, h => cases h; exact ⟨tyX3_ok, nmX3⟩
  | 3, h => cases h; exact ⟨tyX4_ok, nmX4⟩
  | 4, h => cases h; exact ⟨tyX5_ok, nmX5⟩
  | 5, h => cases h; exact ⟨tyX6_ok, nmX6⟩
  | 6, h => cases h; exact ⟨tyX7_ok, nmX7⟩
  | 7, h => cases h; exact ⟨tyX8_ok, nmX8⟩
  | 8, h => cases h; exact ⟨tyX9_ok, nmX9⟩
  | 9, h => cases h; exact ⟨tyX10_ok, nmX10⟩
  | 10, h => cases h; exact ⟨tyX11_ok, nmX11⟩
  | 11, h => cases h; exact ⟨tyX12_ok, nmX12⟩
  | n + 12, h => simp [vwCl] at h
