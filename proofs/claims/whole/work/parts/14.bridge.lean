/-! THE CLAIM OUT OF ONE WALK OF THE LAW'S BODY. Your part is whole_start (and what it stands on); all else here is the same for every law, but numbers. -/
def R_law : String := "BufferRoomLaw"
def lw_P (b : Addr) (xs : List Int32) (args : Array Value) (s : State) : Prop := args = #[.ref b] ∧ s.IntsAt b xs ∧ xs.length ≤ 384 ∧ (Jvm.Cond.and given_1 narrow_1).before args s = true
def lw_Q (_ : Array Value) (s : State) (o : Outcome) (t : State) : Prop := o = .returned (some (.int 1)) ∧ Framed s o t [] 600000 7302250
def lw_Z (below : List Frame) (a : Array Value) (s : State) : State → Prop := fun t => ∃ o, t.status = .running ∧ Ended t below o ∧ lw_Q a s o t
/-- the law's own end, with 1 on the stack, nothing written that was there before, its room as the claim has it -/
theorem lw_ret {p : Program} {l : Launch} {e : Env} {s : State} {m : MethodId} {below : List Frame} {meth : Method} {c : Code} {b : Nat} (hx : p.tables.exec = Jvm.exec) (hb : c.code = code) (hr : meth.sig.returnType = ret) (hlocks : meth.locks = false) {pc : Nat} {H : Heap} {ls : Array Slot} (hdg : decode code pc = .ok (.ireturn, 1)) : W p l e room_1 s m #[Value.ref b] below meth c H [] 600000 7302250 (lw_Z below #[Value.ref b] s) (F0 m pc ls [.int 1]) := by
  intro T hT X
  obtain ⟨fs, hret, hrun, hended, hW, hframe⟩ := X.leave (v := some (.int 1)) (hlocks := hlocks) (fun h => by rw [hr] at h; cases h)
  have hmeth' : T.vm.method? m = some meth := X.method'
  refine ⟨T.setFrames fs, ?_, .returned (some (.int 1)), hrun, hended, rfl, ⟨_, rfl⟩, hW, hframe⟩
  jvm_step X.here [X.here.top, hx, hb, hdg, hmeth', hr, ret, narrow_b1]
  (try refine ⟨rfl, ?_⟩); (try refine ⟨rfl, ?_⟩)
  first | (intro acts; rw [hret _ acts rfl rfl rfl]) | rw [hret _ _ rfl rfl rfl]
  exact Steps.refl _
/-- what holds at the law's entry: the machine, the code, the tables' words (any of lw_tbl by 'hts w (by decide +kernel)'), the script of L ints xs at the cell b, what the Statement gives of the start (any of its parts by flat_of_before) -/
def lw_At (p : Program) (s : State) (m : MethodId) (meth : Method) (c : Code) (b L : Nat) (xs : Nat → Int32) : Prop :=
  p.tables.exec = Jvm.exec ∧ c.code = code ∧ meth.sig.returnType = ret ∧ c.maxLocals = 4 ∧ s.vm.findClass R_law = some m.cls ∧ (∀ w ∈ lw_tbl, w.before #[Value.ref b] s = true) ∧ va_X b L xs s s.heap ∧ b < s.heap.size ∧ meth.locks = false ∧ (Jvm.Cond.and given_1 narrow_1).before #[Value.ref b] s = true
/-- the abstract heap at the law's entry -/
def ab_h0 (Ln : Nat) (xs : Nat → Int32) : abH := ([(100, Ln), (101, 6)], fun o => if o = 0 then xs else abAb, fun _ _ => .null)
set_option maxRecDepth 100000 in
theorem okInst : ∀ q ∈ vwCl, Cond.instantiable q.1 q.2.2 ∈ abW0 := by
  have h : vwCl.all (fun q => decide (Cond.instantiable q.1 q.2.2 ∈ lw_tbl)) = true := by decide +kernel
  intro q hq
  have h1 := List.all_eq_true.mp h q hq
  exact List.mem_filter.mpr ⟨of_decide_eq_true h1, rfl⟩
theorem law_mi : abMT[220]? = some (x, code, maxLocals, ret, 1, 13, 0, 0) := rfl
theorem ab_lookT {i : Nat} {w : Cond} (h : lw_tbl[i]? = some w) : w ∈ lw_tbl := List.mem_of_getElem? h
set_option maxHeartbeats 4000000 in
set_option maxRecDepth 100000 in
theorem whole_of (hlaw : ∀ (Ln : Nat) (xs : Nat → Int32), Ln ≤ 384 → aM 100 220 [.ref 0] (ab_h0 Ln xs) (fun v h => v = some (.int 1) ∧ h.1.length ≤ 1000 ∧ absz h.1 ≤ 100000)) {p : Program} {e : Env} {s : State} {m : MethodId} {below : List Frame} {meth : Method} {c : Code} (l : Launch) {b L : Nat} {xs : Nat → Int32} (hL : L ≤ 384) (C0 : lw_At p s m meth c b L xs) : W p l e room_1 s m #[Value.ref b] below meth c s.heap [] 0 0 (lw_Z below #[Value.ref b] s) (entryFrame m ([Value.ref b] : List Value).toArray 4) := by
  obtain ⟨hx, hb, hr, hml, hown, hts, hX, hbl, hlocks, hgv⟩ := id C0
  have hs := flat_of_before _ hgv
  have hA : ∀ a : Nat, a < s.heap.size → ¬ (fun q : Nat => s.heap.size ≤ q) a := fun a h => Nat.not_le.mpr h
  obtain ⟨t, ht1, ht2⟩ := va_Tof (tm := .static "BufferRoom$Kinds" "ABOVE" "[I") (ty := .int) (N := 6) (f := fun j => .int (abAb j)) (A := fun q : Nat => s.heap.size ≤ q) (by decide) (hs _ (by decide +kernel)) (va_eqt (hs (.eq (.length (.static "BufferRoom$Kinds" "ABOVE" "[I")) (.int 6)) (by decide +kernel)))
    (fun j hj => by
      have : j = 0 ∨ j = 1 ∨ j = 2 ∨ j = 3 ∨ j = 4 ∨ j = 5 := by omega
      rcases this with rfl | rfl | rfl | rfl | rfl | rfl
      · exact va_eqt (hs (.eq (.elem (.static "BufferRoom$Kinds" "ABOVE" "[I") (.int 0)) (.int (-1))) (by decide +kernel))
      · exact va_eqt (hs (.eq (.elem (.static "BufferRoom$Kinds" "ABOVE" "[I") (.int 1)) (.int 0)) (by decide +kernel))
      · exact va_eqt (hs (.eq (.elem (.static "BufferRoom$Kinds" "ABOVE" "[I") (.int 2)) (.int 0)) (by decide +kernel))
      · exact va_eqt (hs (.eq (.elem (.static "BufferRoom$Kinds" "ABOVE" "[I") (.int 3)) (.int 1)) (by decide +kernel))
      · exact va_eqt (hs (.eq (.elem (.static "BufferRoom$Kinds" "ABOVE" "[I") (.int 4)) (.int 2)) (by decide +kernel))
      · exact va_eqt (hs (.eq (.elem (.static "BufferRoom$Kinds" "ABOVE" "[I") (.int 5)) (.int 2)) (by decide +kernel))) hA
  have hZ : va_Z "BufferRoom$Kinds" "ABOVE" "[I" (.ref t) (fun q : Nat => s.heap.size ≤ q) s s.heap := va_Zof (hts _ (ab_lookT (i := 467) rfl)) (hts _ (ab_lookT (i := 95) rfl)) ht1 hA
  have hW0 : ∀ w ∈ abW0, w.before #[Value.ref b] s = true := fun w hw => hts w (List.mem_filter.mp hw).1
  have hNw : ∀ w ∈ abNw, va_Nw w s := by
    intro w hw
    have h1 := hts w (List.mem_filter.mp hw).1
    rcases ab_isN hw with ⟨a, i, b, n, d, q, rfl⟩ | ⟨a, i, y, q, rfl⟩ <;> exact va_Nw.of rfl h1
  have hAO : va_AO "BufferRoom$Sheet" s := va_AO.of (hts _ (ab_lookT (i := 402) rfl))
  have hcl : ∀ k : Nat, ∃ (cC : ClassId) (iS : Nat → Nat), ∀ q, vwCl[k]? = some q → u_Kn s q.1 q.2.1 q.2.2 cC iS := by
    intro k
    cases hq : vwCl[k]? with
    | none => exact ⟨0, fun _ => 0, fun q h => by cases h⟩
    | some q =>
      have hm := List.mem_of_getElem? hq
      obtain ⟨cC, iS, hK⟩ := u_known (C := q.1) (T := q.2.1) (N := q.2.2) hW0 (fun w hw => okU q hm hw) (hW0 _ (okInst q hm))
      exact ⟨cC, iS, fun q' h => by cases h; exact hK⟩
  obtain ⟨ci, ki, pi, i1, i2, i3⟩ := Cond.arrayClass_spec (hW0 _ abArrI_in)
  obtain ⟨cz, kz, pz, z1, z2, z3⟩ := Cond.arrayClass_spec (hW0 _ abArrZ_in)
  obtain ⟨cs, cq, kq, q1, q2, q3, q4, q5⟩ := Cond.arrayOver_spec hAO
  have hK : va_K (fun k => (hcl k).choose, fun k => (hcl k).choose_spec.choose) vwCl (abTy (fun k => if k = 0 then ci else if k = 1 then cz else cq)) s := by
    refine ⟨fun k q hq => (hcl k).choose_spec.choose_spec q hq, fun k q hk => ?_⟩
    match k, hk with
    | 0, hk => cases hk; exact ⟨fun n z => ⟨fun k h => (by cases h), ki, i2, pi, i3⟩, i1⟩
    | 1, hk => cases hk; exact ⟨fun n z => ⟨fun k h => (by cases h), kz, z2, pz, z3⟩, z1⟩
    | 2, hk => cases hk; exact ⟨fun n z => ⟨fun k h => (by cases h), kq, q3, cs, q4⟩, kq, cs, q3, q4, q1, q5⟩
    | k + 3, hk => simp [abTy] at hk
  obtain ⟨n, r, hrun, e1, e2, e3⟩ := hlaw L xs hL
  have hbase : ∀ k : Nat, k < s.heap.size → ¬ s.heap.size ≤ k := fun k h => Nat.not_le.mpr h
  have hsz0 : absz (ab_h0 L xs).1 = L + 6 := by simp [absz, ab_h0]
  have hfix : abFix p room_1 s m #[Value.ref b] meth c (x, code, maxLocals, ret, 1, 13, 0, 0) 100 (fun k => (hcl k).choose, fun k => (hcl k).choose_spec.choose) (fun k => if k = 0 then ci else if k = 1 then cz else cq) :=
    ⟨hx, hb, hr, hml, hown, hW0, hlocks, fun q => absurd q (by decide), hK, Nat.le_of_ble_eq_true rfl, Nat.le_of_ble_eq_true rfl, hNw, hAO, rfl⟩
  have hpu : abPu L xs (ab_h0 L xs) := ⟨rfl, rfl, fun j _ => rfl, fun j _ => rfl⟩
  have hP : va_P (fun k => (hcl k).choose, fun k => (hcl k).choose_spec.choose) vwCl (aWs (fun k => if k = 0 then ci else if k = 1 then cz else cq) (abAd s.heap.size b t) (ab_h0 L xs)) s.heap := fun k q h => by simp [aWs, ab_h0] at h
  have hbody := sd_run (l := l) (D := (fun k => (hcl k).choose, fun k => (hcl k).choose_spec.choose)) (cy := fun k => if k = 0 then ci else if k = 1 then cz else cq) (B0 := s.heap.size) (b := b) (t := t) (Ln := L) (xs := xs) n 100 220 0 _ [] (ab_h0 L xs) r hrun _ law_mi p e room_1 s m #[Value.ref b] below meth c (lw_Z below #[Value.ref b] s) 2 (L + 6)
    ⟨hfix, ⟨hZ, ht2, hX, hbl, Nat.le_refl _⟩, rfl⟩ (Nat.le_refl 2) (by rw [hsz0]; exact Nat.le_refl _) (by show r.2.1.length - 2 ≤ 600000; omega) (by show absz r.2.1 - (L + 6) ≤ 7302250; omega) (by
      intro H locs ls pc2 st hd hres
      obtain ⟨d1, d2, d3, d4⟩ := hd
      rcases hres with ⟨rv, -⟩ | ⟨r0, rv, rfl, hdec, hrt⟩
      · rw [e1] at rv; cases rv
      · rw [e1] at rv
        cases rv
        refine va_forget (fun q hq => d2.2.2 q hq) ?_
        refine W.widen (k := 600000) (n := 7302250) (by omega) (by omega) ?_
        exact lw_ret hx hb hr hlocks hdec)
  have hW := hbody s.heap [] _ ⟨hP, va_S.rf, rfl, hpu⟩ (by
    rw [ab_start_eq law_mi]
    exact ab_entry_ok (ad := abAd s.heap.size b t) (as := [.ref 0]) (n := maxLocals) (Nat.le_of_ble_eq_true rfl))
  rw [hsz0, Nat.sub_self] at hW
  rw [lg_entry_eq]
  exact hW
